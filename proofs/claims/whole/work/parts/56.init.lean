/-! ===== constructors ===== -/
def zF : Int → Int := fun _ => 0
def cs0 : Int → Int := uZ zF 0 1
def mp0 : Int → Int := uZ (uZ (uZ zF 0 4) 1 0) 2 10
theorem mp0_m : uZ (uZ zF 0 4) 2 10 = mp0 := by
  funext k; unfold mp0 uZ zF
  by_cases q : k = 2
  · rw [if_pos q, if_pos q]
  · rw [if_neg q, if_neg q]
    by_cases q0 : k = 1
    · rw [if_pos q0, if_neg (by omega)]
    · rw [if_neg q0]
theorem mood0 : MoodOK cs0 mp0 := by
  intro m h0 h4
  by_cases e : m = 0
  · subst e
    refine ⟨by decide, fun i a b => ?_, by decide⟩
    have b : i < 1 := b
    rw [show i = 0 by omega]; decide
  · have hc : cs0 m = 0 := by unfold cs0; rw [uZ_n _ _ e]; rfl
    rw [hc]
    exact ⟨by decide, fun i a b => by omega, by show (0 : Int) ≤ 10; decide⟩
section ZN
variable {p : Program} {l : Launch} {e : Env} {R : Room} {s : State} {m : MethodId} {args : Array Value} {below : List Frame} {meth : Method} {c : Code} {H : Heap} {locs : List Loc} {cells slots : Nat} {Q : State → Prop} {cc : ByteArray} {pc : Nat} {ls : Array Slot} {rest : List Value} {D : va_G} {cl : List vw_C} {A : Nat → Prop} {a : Nat} {tys : List (ClassId × FieldType)} {ws : va_W} {H0 : Heap}
theorem z_newI (hexec : p.tables.exec = Jvm.exec) (hb : c.code = cc) (harr : (Cond.arrayClass .int).before args s = true) (hK : va_K D cl tys s) (hP : va_P D cl ws H) (hD : va_D A ws) (hS : va_S A H0 H locs) (hA : ∀ q, H0.size ≤ q → A q) (t0 : Nat) {cT : ClassId} (ht : tys[t0]? = some (cT, .int)) {n : Int} {N : Nat} (hn : n = (N : Int)) (h31 : N ≤ 60000000) (hcells : cells + 1 ≤ R.cells) (hslots : slots + N ≤ R.slots) (hdg : decode cc pc = .ok (.newarray .int, 2)) (kk : ∀ (q : Nat) (H1 : Heap), va_P D cl (ws ++ [(q, .inl (cT, N, .inl (aZ zF)))]) H1 → va_D A (ws ++ [(q, .inl (cT, N, .inl (aZ zF)))]) → va_S A H0 H1 locs → W p l e R s m args below meth c H1 locs (cells + 1) (slots + N) Q (F0 m (pc + 2) ls (.ref q :: rest))) : W p l e R s m args below meth c H locs cells slots Q (F0 m pc ls (.int (nZ n) :: rest)) := by
  subst hn
  refine va_newa (atype := .int) hexec hb harr (ty := .int) rfl hK hP hD hS hA (N' := N) (a0 := (N, .inl (aZ zF))) (fun _ => rfl) (fun q => ?_) (by rw [nZ_cl ⟨by omega, by omega⟩]; omega) (by show N * 4 ≤ 536870912; omega) hcells hslots hdg (fun q cA H1 hK1 hP1 hD1 hS1 => ?_)
  · have q2 := (nZ_lt (a := (N : Int)) (b := 0) ⟨by omega, by omega⟩ (by decide)).mp q
    omega
  · have h1 := va_nm_int (hK1.2 tys.length (cA, .int) (by simp)).2
    have h2 := va_nm_int (hK.2 t0 (cT, .int) ht).2
    have h3 : cA = cT := Option.some.inj (h1.symm.trans h2)
    subst h3
    exact kk q H1 hP1 hD1 hS1
theorem z_newJ (hexec : p.tables.exec = Jvm.exec) (hb : c.code = cc) (harr : (Cond.arrayClass .long).before args s = true) (hK : va_K D cl tys s) (hP : va_P D cl ws H) (hD : va_D A ws) (hS : va_S A H0 H locs) (hA : ∀ q, H0.size ≤ q → A q) (t0 : Nat) {cT : ClassId} (ht : tys[t0]? = some (cT, .long)) {n : Int} {N : Nat} (hn : n = (N : Int)) (h31 : N ≤ 60000000) (hcells : cells + 1 ≤ R.cells) (hslots : slots + N ≤ R.slots) (hdg : decode cc pc = .ok (.newarray .long, 2)) (kk : ∀ (q : Nat) (H1 : Heap), va_P D cl (ws ++ [(q, .inl (cT, N, .inr (.inl (bZ zF))))]) H1 → va_D A (ws ++ [(q, .inl (cT, N, .inr (.inl (bZ zF))))]) → va_S A H0 H1 locs → W p l e R s m args below meth c H1 locs (cells + 1) (slots + N) Q (F0 m (pc + 2) ls (.ref q :: rest))) : W p l e R s m args below meth c H locs cells slots Q (F0 m pc ls (.int (nZ n) :: rest)) := by
  subst hn
  refine va_newa (atype := .long) hexec hb harr (ty := .long) rfl hK hP hD hS hA (N' := N) (a0 := (N, .inr (.inl (bZ zF)))) (fun _ => rfl) (fun q => ?_) (by rw [nZ_cl ⟨by omega, by omega⟩]; omega) (by show N * 8 ≤ 536870912; omega) hcells hslots hdg (fun q cA H1 hK1 hP1 hD1 hS1 => ?_)
  · have q2 := (nZ_lt (a := (N : Int)) (b := 0) ⟨by omega, by omega⟩ (by decide)).mp q
    omega
  · have h1 := va_nm_long (hK1.2 tys.length (cA, .long) (by simp)).2
    have h2 := va_nm_long (hK.2 t0 (cT, .long) ht).2
    have h3 : cA = cT := Option.some.inj (h1.symm.trans h2)
    subst h3
    exact kk q H1 hP1 hD1 hS1
end ZN
theorem dfX0 : ∀ j, j < 3 → defaultValue (tyX0 j) = vp_V [.null, .null, .null] j := fun j hj => by rcases (show j = 0 ∨ j = 1 ∨ j = 2 by omega) with rfl | rfl | rfl <;> rfl
theorem dfX1 : ∀ j, j < 3 → defaultValue (tyX1 j) = vp_V [.null, .int (nZ 0), .int (nZ 0)] j := fun j hj => by rcases (show j = 0 ∨ j = 1 ∨ j = 2 by omega) with rfl | rfl | rfl <;> rfl
theorem dfX2 : ∀ j, j < 2 → defaultValue (tyX2 j) = vp_V [.null, .int (nZ 0)] j := fun j hj => by rcases (show j = 0 ∨ j = 1 by omega) with rfl | rfl <;> rfl
theorem dfX3 : ∀ j, j < 2 → defaultValue (tyX3 j) = vp_V [.null, .null] j := fun j hj => by rcases (show j = 0 ∨ j = 1 by omega) with rfl | rfl <;> rfl
theorem dfX4 : ∀ j, j < 7 → defaultValue (tyX4 j) = vp_V [.null, .null, .null, .int (nZ 0), .int (nZ 0), .int (nZ 0), .int (nZ 0)] j := fun j hj => by rcases (show j = 0 ∨ j = 1 ∨ j = 2 ∨ j = 3 ∨ j = 4 ∨ j = 5 ∨ j = 6 by omega) with rfl | rfl | rfl | rfl | rfl | rfl | rfl <;> rfl
theorem dfX5 : ∀ j, j < 5 → defaultValue (tyX5 j) = vp_V [.null, .int (nZ 0), .int (nZ 0), .int (nZ 0), .int (nZ 0)] j := fun j hj => by rcases (show j = 0 ∨ j = 1 ∨ j = 2 ∨ j = 3 ∨ j = 4 by omega) with rfl | rfl | rfl | rfl | rfl <;> rfl
theorem dfX6 : ∀ j, j < 7 → defaultValue (tyX6 j) = vp_V [.int (nZ 0), .int (nZ 0), .int (nZ 0), .int (nZ 0), .int (nZ 0), .int (nZ 0), .int (nZ 0)] j := fun j hj => by rcases (show j = 0 ∨ j = 1 ∨ j = 2 ∨ j = 3 ∨ j = 4 ∨ j = 5 ∨ j = 6 by omega) with rfl | rfl | rfl | rfl | rfl | rfl | rfl <;> rfl
theorem dfX7 : ∀ j, j < 2 → defaultValue (tyX7 j) = vp_V [.null, .int (nZ 0)] j := fun j hj => by rcases (show j = 0 ∨ j = 1 by omega) with rfl | rfl <;> rfl
theorem dfX8 : ∀ j, j < 8 → defaultValue (tyX8 j) = vp_V [.null, .null, .null, .null, .int (nZ 0), .int (nZ 0), .int (nZ 0), .int (nZ 0)] j := fun j hj => by rcases (show j = 0 ∨ j = 1 ∨ j = 2 ∨ j = 3 ∨ j = 4 ∨ j = 5 ∨ j = 6 ∨ j = 7 by omega) with rfl | rfl | rfl | rfl | rfl | rfl | rfl | rfl <;> rfl
theorem dfX9 : ∀ j, j < 9 → defaultValue (tyX9 j) = vp_V [.null, .null, .null, .null, .null, .null, .null, .null, .null] j := fun j hj => by rcases (show j = 0 ∨ j = 1 ∨ j = 2 ∨ j = 3 ∨ j = 4 ∨ j = 5 ∨ j = 6 ∨ j = 7 ∨ j = 8 by omega) with rfl | rfl | rfl | rfl | rfl | rfl | rfl | rfl | rfl <;> rfl
theorem dfX10 : ∀ j, j < 40 → defaultValue (tyX10 j) = vp_V [.int (nZ 0), .int (nZ 0), .null, .null, .int (nZ 0), .int (nZ 0), .int (nZ 0), .int (nZ 0), .int (nZ 0), .int (nZ 0), .null, .int (nZ 0), .int (nZ 0), .long (lZ 0), .int (nZ 0), .int (nZ 0), .int (nZ 0), .int (nZ 0), .null, .int (nZ 0), .null, .null, .int (nZ 0), .null, .null, .null, .int (nZ 0), .null, .null, .null, .int (nZ 0), .null, .null, .int (nZ 0), .int (nZ 0), .int (nZ 0), .int (nZ 0), .int (nZ 0), .int (nZ 0), .int (nZ 0)] j := fun j hj => by rcases (show j = 0 ∨ j = 1 ∨ j = 2 ∨ j = 3 ∨ j = 4 ∨ j = 5 ∨ j = 6 ∨ j = 7 ∨ j = 8 ∨ j = 9 ∨ j = 10 ∨ j = 11 ∨ j = 12 ∨ j = 13 ∨ j = 14 ∨ j = 15 ∨ j = 16 ∨ j = 17 ∨ j = 18 ∨ j = 19 ∨ j = 20 ∨ j = 21 ∨ j = 22 ∨ j = 23 ∨ j = 24 ∨ j = 25 ∨ j = 26 ∨ j = 27 ∨ j = 28 ∨ j = 29 ∨ j = 30 ∨ j = 31 ∨ j = 32 ∨ j = 33 ∨ j = 34 ∨ j = 35 ∨ j = 36 ∨ j = 37 ∨ j = 38 ∨ j = 39 by omega) with rfl | rfl | rfl | rfl | rfl | rfl | rfl | rfl | rfl | rfl | rfl | rfl | rfl | rfl | rfl | rfl | rfl | rfl | rfl | rfl | rfl | rfl | rfl | rfl | rfl | rfl | rfl | rfl | rfl | rfl | rfl | rfl | rfl | rfl | rfl | rfl | rfl | rfl | rfl | rfl <;> rfl
set_option maxHeartbeats 4000000 in
set_option maxRecDepth 100000 in
theorem c_X7_init (l : Launch) (D : va_G) (cI cJ : ClassId) (tn : Nat) (sz : Nat) (h : Nat)   : Met l yX7_init wsX7_init ({ frames := 1, cells := 1, slots := 200, locals := 12 } : Room) (va_Pc [.ref h] (WrP D cI cJ tn [(h, .inr (7, [.null, .int (nZ 0)]))] sz)) (va_Qv (fun u9 : Nat => True) (fun u9 t9 => WrQ D (va_A [(h, .inr (7, [.null, .int (nZ 0)]))] sz) [(h, .inr (7, [.ref u9, .int (nZ 0)])), (u9, .inl (cI, 200, .inl (aZ zF)))] t9) (va_A [(h, .inr (7, [.null, .int (nZ 0)]))] sz)) 1 200 (va_A [(h, .inr (7, [.null, .int (nZ 0)]))] sz) := by
  refine Met.ofW (cc := cX7_init) (maxL := 1) (ret := none) (by decide) rfl ?_
  intro p e s m args below meth c s₁ B hml hv
  obtain ⟨rfl, hsz, hE, hP, hD0⟩ := hv
  have hx := B.exec
  have hb := B.bytes
  have hr := B.returns
  have hts := atoms_spec (ws := wsX7_init) B.pre
  have hown : s.vm.findClass RX7 = some m.cls := findClass_of_methodNamed B.named
  have hlocks := B.notSynchronized
  have hin : meth.name = "<init>" := (name_of_methodNamed B.named B.method).1
  subst hsz
  have hD := hD0.self (sz := s.heap.size)
  generalize hAe : va_A [(h, .inr (7, [.null, .int (nZ 0)]))] s.heap.size = A at hD hE ⊢
  have hA : ∀ q : Nat, s.heap.size ≤ q → A q := fun q h => by rw [← hAe]; exact Or.inr h
  have hS : va_S A s.heap s.heap [] := va_S.rf
  have hK := hE.1
  have hN := hE.2.1
  have hl := lv_entry ([.ref h]) (n := 1) (Nat.le_of_ble_eq_true rfl)
  rw [lg_entry_eq]
  generalize (lg_sl ([.ref h]) ++ List.replicate (1 - (lg_sl ([.ref h])).length) Slot.unset).toArray = ls at hl ⊢
  have hl : lv_has ls 1 [(0, .ref h)] := hl
  have iX7 : ∀ w ∈ u_ws RX7 TX7 2, w ∈ wsX7_init := fun _ h => List.mem_cons_of_mem _ (List.mem_append_right _ h)
  refine lv_aload_n hx hb dX7_init_0 rfl (lv_at hl 0 rfl) ?_
  refine W.objInit hx hb hown (hts (.methodLink RX7 3 objectInit) (List.mem_of_getElem? (i := 1) rfl)) (hts (.instanceMethod objectInit) (List.mem_of_getElem? (i := 2) rfl)) (hts (.code objectInit ⟨#[0xb1]⟩ 1 none) (List.mem_of_getElem? (i := 3) rfl)) rfl (by rw [hml]; exact hl.1) rfl dX7_init_1 (Nat.le_of_ble_eq_true rfl) (Nat.le_of_ble_eq_true rfl) ?_
  refine W.eq (g2 := F0 m 4 ls []) rfl ?_
  refine lv_aload_n hx hb dX7_init_4 rfl (lv_at hl 0 rfl) ?_
  refine lv_sipush (v := nZ 200) hx hb dX7_init_5 (by decide) ?_
  refine z_newI (N := 200) hx hb (hts (.arrayClass .int) (List.mem_of_getElem? (i := 4) rfl)) hK hP hD hS hA 0 rfl rfl (Nat.le_of_ble_eq_true rfl) (Nat.le_of_ble_eq_true rfl) (Nat.le_of_ble_eq_true rfl) dX7_init_8 (fun q8 H hP hD hS => ?_)
  have hP : va_P D vwCl [(h, .inr (7, [.null, .int (nZ 0)])), (q8, .inl (cI, 200, .inl (aZ zF)))] H := hP
  have hD : va_D A [(h, .inr (7, [.null, .int (nZ 0)])), (q8, .inl (cI, 200, .inl (aZ zF)))] := hD
  refine va_putF (D := D) (ci := 7) (v := .ref q8) (ty := (.array .int)) (C := RX7) (T := TX7) (N := 2) hx hb hts iX7 tyX7 tyX7_ok nmX7 hown hK hP hD hS 0 rfl rfl 0 (by decide) (hts (.fieldLink RX7 9 "RainTarget$Text" "bytes" "[I") (List.mem_of_getElem? (i := 5) rfl)) (fun _ h9 => h9) rfl hin rfl (by decide +kernel) rfl rfl (Nat.le_of_ble_eq_true rfl) dX7_init_10 (fun H locs hP hD hS => ?_)
  have hP : va_P D vwCl [(h, .inr (7, [.ref q8, .int (nZ 0)])), (q8, .inl (cI, 200, .inl (aZ zF)))] H := hP
  have hD : va_D A [(h, .inr (7, [.ref q8, .int (nZ 0)])), (q8, .inl (cI, 200, .inl (aZ zF)))] := hD
  have hP9 := hP.sub (ws' := [(h, .inr (7, [.ref q8, .int (nZ 0)])), (q8, .inl (cI, 200, .inl (aZ zF)))]) [0, 1] rfl
  have hD9 := hD.sub (ws' := [(h, .inr (7, [.ref q8, .int (nZ 0)])), (q8, .inl (cI, 200, .inl (aZ zF)))]) [0, 1] (by decide) rfl
  refine W.widen (k := 1) (n := 200) (by omega) (by omega) ?_
  exact W.vret hx hb hr (fun t9 ht9 _ => ⟨⟨(q8), rfl, trivial, ⟨by rw [ht9]; exact hP9, hD9⟩⟩, hS.F ht9⟩) hS.2.2 dX7_init_13

set_option maxHeartbeats 4000000 in
set_option maxRecDepth 100000 in
theorem c_X4_init (l : Launch) (D : va_G) (cI cJ : ClassId) (tn : Nat) (sz : Nat) (h : Nat) (t : Nat)   : Met l yX4_init wsX4_init ({ frames := 1, cells := 2, slots := 112, locals := 12 } : Room) (va_Pc [.ref h, .ref t] (WrP D cI cJ tn [(h, .inr (4, [.null, .null, .null, .int (nZ 0), .int (nZ 0), .int (nZ 0), .int (nZ 0)]))] sz)) (va_Qv (fun u9 : Nat × Nat => True) (fun u9 t9 => WrQ D (va_A [(h, .inr (4, [.null, .null, .null, .int (nZ 0), .int (nZ 0), .int (nZ 0), .int (nZ 0)]))] sz) [(h, .inr (4, [.ref t, .ref u9.1, .ref u9.2, .int (nZ 0), .int (nZ 0), .int (nZ 0), .int (nZ 0)])), (u9.1, .inl (cI, 8, .inl (aZ zF))), (u9.2, .inl (cI, 104, .inl (aZ zF)))] t9) (va_A [(h, .inr (4, [.null, .null, .null, .int (nZ 0), .int (nZ 0), .int (nZ 0), .int (nZ 0)]))] sz)) 2 112 (va_A [(h, .inr (4, [.null, .null, .null, .int (nZ 0), .int (nZ 0), .int (nZ 0), .int (nZ 0)]))] sz) := by
  refine Met.ofW (cc := cX4_init) (maxL := 2) (ret := none) (by decide) rfl ?_
  intro p e s m args below meth c s₁ B hml hv
  obtain ⟨rfl, hsz, hE, hP, hD0⟩ := hv
  have hx := B.exec
  have hb := B.bytes
  have hr := B.returns
  have hts := atoms_spec (ws := wsX4_init) B.pre
  have hown : s.vm.findClass RX4 = some m.cls := findClass_of_methodNamed B.named
  have hlocks := B.notSynchronized
  have hin : meth.name = "<init>" := (name_of_methodNamed B.named B.method).1
  subst hsz
  have hD := hD0.self (sz := s.heap.size)
  generalize hAe : va_A [(h, .inr (4, [.null, .null, .null, .int (nZ 0), .int (nZ 0), .int (nZ 0), .int (nZ 0)]))] s.heap.size = A at hD hE ⊢
  have hA : ∀ q : Nat, s.heap.size ≤ q → A q := fun q h => by rw [← hAe]; exact Or.inr h
  have hS : va_S A s.heap s.heap [] := va_S.rf
  have hK := hE.1
  have hN := hE.2.1
  have hl := lv_entry ([.ref h, .ref t]) (n := 2) (Nat.le_of_ble_eq_true rfl)
  rw [lg_entry_eq]
  generalize (lg_sl ([.ref h, .ref t]) ++ List.replicate (2 - (lg_sl ([.ref h, .ref t])).length) Slot.unset).toArray = ls at hl ⊢
  have hl : lv_has ls 2 [(0, .ref h), (1, .ref t)] := hl
  have iX4 : ∀ w ∈ u_ws RX4 TX4 7, w ∈ wsX4_init := fun _ h => List.mem_cons_of_mem _ (List.mem_append_right _ h)
  refine lv_aload_n hx hb dX4_init_0 rfl (lv_at hl 0 rfl) ?_
  refine W.objInit hx hb hown (hts (.methodLink RX4 3 objectInit) (List.mem_of_getElem? (i := 1) rfl)) (hts (.instanceMethod objectInit) (List.mem_of_getElem? (i := 2) rfl)) (hts (.code objectInit ⟨#[0xb1]⟩ 1 none) (List.mem_of_getElem? (i := 3) rfl)) rfl (by rw [hml]; exact hl.1) rfl dX4_init_1 (Nat.le_of_ble_eq_true rfl) (Nat.le_of_ble_eq_true rfl) ?_
  refine W.eq (g2 := F0 m 4 ls []) rfl ?_
  refine lv_aload_n hx hb dX4_init_4 rfl (lv_at hl 0 rfl) ?_
  refine lv_bipush (v := nZ 8) hx hb dX4_init_5 (by decide) ?_
  refine z_newI (N := 8) hx hb (hts (.arrayClass .int) (List.mem_of_getElem? (i := 4) rfl)) hK hP hD hS hA 0 rfl rfl (Nat.le_of_ble_eq_true rfl) (Nat.le_of_ble_eq_true rfl) (Nat.le_of_ble_eq_true rfl) dX4_init_7 (fun q7 H hP hD hS => ?_)
  have hP : va_P D vwCl [(h, .inr (4, [.null, .null, .null, .int (nZ 0), .int (nZ 0), .int (nZ 0), .int (nZ 0)])), (q7, .inl (cI, 8, .inl (aZ zF)))] H := hP
  have hD : va_D A [(h, .inr (4, [.null, .null, .null, .int (nZ 0), .int (nZ 0), .int (nZ 0), .int (nZ 0)])), (q7, .inl (cI, 8, .inl (aZ zF)))] := hD
  refine va_putF (D := D) (ci := 4) (v := .ref q7) (ty := (.array .int)) (C := RX4) (T := TX4) (N := 7) hx hb hts iX4 tyX4 tyX4_ok nmX4 hown hK hP hD hS 0 rfl rfl 1 (by decide) (hts (.fieldLink RX4 9 "RainTarget$Reader" "words" "[I") (List.mem_of_getElem? (i := 5) rfl)) (fun _ h9 => h9) rfl hin rfl (by decide +kernel) rfl rfl (Nat.le_of_ble_eq_true rfl) dX4_init_9 (fun H locs hP hD hS => ?_)
  have hP : va_P D vwCl [(h, .inr (4, [.null, .ref q7, .null, .int (nZ 0), .int (nZ 0), .int (nZ 0), .int (nZ 0)])), (q7, .inl (cI, 8, .inl (aZ zF)))] H := hP
  have hD : va_D A [(h, .inr (4, [.null, .ref q7, .null, .int (nZ 0), .int (nZ 0), .int (nZ 0), .int (nZ 0)])), (q7, .inl (cI, 8, .inl (aZ zF)))] := hD
  refine lv_aload_n hx hb dX4_init_12 rfl (lv_at hl 0 rfl) ?_
  refine lv_bipush (v := nZ 104) hx hb dX4_init_13 (by decide) ?_
  refine z_newI (N := 104) hx hb (hts (.arrayClass .int) (List.mem_of_getElem? (i := 4) rfl)) hK hP hD hS hA 0 rfl rfl (Nat.le_of_ble_eq_true rfl) (Nat.le_of_ble_eq_true rfl) (Nat.le_of_ble_eq_true rfl) dX4_init_15 (fun q15 H hP hD hS => ?_)
  have hP : va_P D vwCl [(h, .inr (4, [.null, .ref q7, .null, .int (nZ 0), .int (nZ 0), .int (nZ 0), .int (nZ 0)])), (q7, .inl (cI, 8, .inl (aZ zF))), (q15, .inl (cI, 104, .inl (aZ zF)))] H := hP
  have hD : va_D A [(h, .inr (4, [.null, .ref q7, .null, .int (nZ 0), .int (nZ 0), .int (nZ 0), .int (nZ 0)])), (q7, .inl (cI, 8, .inl (aZ zF))), (q15, .inl (cI, 104, .inl (aZ zF)))] := hD
  refine va_putF (D := D) (ci := 4) (v := .ref q15) (ty := (.array .int)) (C := RX4) (T := TX4) (N := 7) hx hb hts iX4 tyX4 tyX4_ok nmX4 hown hK hP hD hS 0 rfl rfl 2 (by decide) (hts (.fieldLink RX4 15 "RainTarget$Reader" "numbers" "[I") (List.mem_of_getElem? (i := 6) rfl)) (fun _ h9 => h9) rfl hin rfl (by decide +kernel) rfl rfl (Nat.le_of_ble_eq_true rfl) dX4_init_17 (fun H locs hP hD hS => ?_)
  have hP : va_P D vwCl [(h, .inr (4, [.null, .ref q7, .ref q15, .int (nZ 0), .int (nZ 0), .int (nZ 0), .int (nZ 0)])), (q7, .inl (cI, 8, .inl (aZ zF))), (q15, .inl (cI, 104, .inl (aZ zF)))] H := hP
  have hD : va_D A [(h, .inr (4, [.null, .ref q7, .ref q15, .int (nZ 0), .int (nZ 0), .int (nZ 0), .int (nZ 0)])), (q7, .inl (cI, 8, .inl (aZ zF))), (q15, .inl (cI, 104, .inl (aZ zF)))] := hD
  refine lv_aload_n hx hb dX4_init_20 rfl (lv_at hl 0 rfl) ?_
  refine lv_aload_n hx hb dX4_init_21 rfl (lv_at hl 1 rfl) ?_
  refine va_putF (D := D) (ci := 4) (v := .ref t) (ty := (.object "RainTarget$Text")) (C := RX4) (T := TX4) (N := 7) hx hb hts iX4 tyX4 tyX4_ok nmX4 hown hK hP hD hS 0 rfl rfl 0 (by decide) (hts (.fieldLink RX4 18 "RainTarget$Reader" "text" "LRainTarget$Text;") (List.mem_of_getElem? (i := 7) rfl)) (fun _ h9 => h9) rfl hin rfl (by decide +kernel) rfl rfl (Nat.le_of_ble_eq_true rfl) dX4_init_22 (fun H locs hP hD hS => ?_)
  have hP : va_P D vwCl [(h, .inr (4, [.ref t, .ref q7, .ref q15, .int (nZ 0), .int (nZ 0), .int (nZ 0), .int (nZ 0)])), (q7, .inl (cI, 8, .inl (aZ zF))), (q15, .inl (cI, 104, .inl (aZ zF)))] H := hP
  have hD : va_D A [(h, .inr (4, [.ref t, .ref q7, .ref q15, .int (nZ 0), .int (nZ 0), .int (nZ 0), .int (nZ 0)])), (q7, .inl (cI, 8, .inl (aZ zF))), (q15, .inl (cI, 104, .inl (aZ zF)))] := hD
  have hP9 := hP.sub (ws' := [(h, .inr (4, [.ref t, .ref q7, .ref q15, .int (nZ 0), .int (nZ 0), .int (nZ 0), .int (nZ 0)])), (q7, .inl (cI, 8, .inl (aZ zF))), (q15, .inl (cI, 104, .inl (aZ zF)))]) [0, 1, 2] rfl
  have hD9 := hD.sub (ws' := [(h, .inr (4, [.ref t, .ref q7, .ref q15, .int (nZ 0), .int (nZ 0), .int (nZ 0), .int (nZ 0)])), (q7, .inl (cI, 8, .inl (aZ zF))), (q15, .inl (cI, 104, .inl (aZ zF)))]) [0, 1, 2] (by decide) rfl
  refine W.widen (k := 2) (n := 112) (by omega) (by omega) ?_
  exact W.vret hx hb hr (fun t9 ht9 _ => ⟨⟨((q7), (q15)), rfl, trivial, ⟨by rw [ht9]; exact hP9, hD9⟩⟩, hS.F ht9⟩) hS.2.2 dX4_init_25

set_option maxHeartbeats 4000000 in
set_option maxRecDepth 100000 in
theorem c_X6_init (l : Launch) (D : va_G) (cI cJ : ClassId) (tn : Nat) (sz : Nat) (h : Nat)   : Met l yX6_init wsX6_init ({ frames := 1, cells := 0, slots := 0, locals := 12 } : Room) (va_Pc [.ref h] (WrP D cI cJ tn [(h, .inr (6, [.int (nZ 0), .int (nZ 0), .int (nZ 0), .int (nZ 0), .int (nZ 0), .int (nZ 0), .int (nZ 0)]))] sz)) (va_Qv (fun u9 : Unit => True) (fun u9 t9 => WrQ D (va_A [(h, .inr (6, [.int (nZ 0), .int (nZ 0), .int (nZ 0), .int (nZ 0), .int (nZ 0), .int (nZ 0), .int (nZ 0)]))] sz) [(h, .inr (6, [.int (nZ 6), .int (nZ 3), .int (nZ 100), .int (nZ 100), .int (nZ 0), .int (nZ 0), .int (nZ 5)]))] t9) (va_A [(h, .inr (6, [.int (nZ 0), .int (nZ 0), .int (nZ 0), .int (nZ 0), .int (nZ 0), .int (nZ 0), .int (nZ 0)]))] sz)) 0 0 (va_A [(h, .inr (6, [.int (nZ 0), .int (nZ 0), .int (nZ 0), .int (nZ 0), .int (nZ 0), .int (nZ 0), .int (nZ 0)]))] sz) := by
  refine Met.ofW (cc := cX6_init) (maxL := 1) (ret := none) (by decide) rfl ?_
  intro p e s m args below meth c s₁ B hml hv
  obtain ⟨rfl, hsz, hE, hP, hD0⟩ := hv
  have hx := B.exec
  have hb := B.bytes
  have hr := B.returns
  have hts := atoms_spec (ws := wsX6_init) B.pre
  have hown : s.vm.findClass RX6 = some m.cls := findClass_of_methodNamed B.named
  have hlocks := B.notSynchronized
  have hin : meth.name = "<init>" := (name_of_methodNamed B.named B.method).1
  subst hsz
  have hD := hD0.self (sz := s.heap.size)
  generalize hAe : va_A [(h, .inr (6, [.int (nZ 0), .int (nZ 0), .int (nZ 0), .int (nZ 0), .int (nZ 0), .int (nZ 0), .int (nZ 0)]))] s.heap.size = A at hD hE ⊢
  have hA : ∀ q : Nat, s.heap.size ≤ q → A q := fun q h => by rw [← hAe]; exact Or.inr h
  have hS : va_S A s.heap s.heap [] := va_S.rf
  have hK := hE.1
  have hN := hE.2.1
  have hl := lv_entry ([.ref h]) (n := 1) (Nat.le_of_ble_eq_true rfl)
  rw [lg_entry_eq]
  generalize (lg_sl ([.ref h]) ++ List.replicate (1 - (lg_sl ([.ref h])).length) Slot.unset).toArray = ls at hl ⊢
  have hl : lv_has ls 1 [(0, .ref h)] := hl
  have iX6 : ∀ w ∈ u_ws RX6 TX6 7, w ∈ wsX6_init := fun _ h => List.mem_cons_of_mem _ (List.mem_append_right _ h)
  refine lv_aload_n hx hb dX6_init_0 rfl (lv_at hl 0 rfl) ?_
  refine W.objInit hx hb hown (hts (.methodLink RX6 1 objectInit) (List.mem_of_getElem? (i := 1) rfl)) (hts (.instanceMethod objectInit) (List.mem_of_getElem? (i := 2) rfl)) (hts (.code objectInit ⟨#[0xb1]⟩ 1 none) (List.mem_of_getElem? (i := 3) rfl)) rfl (by rw [hml]; exact hl.1) rfl dX6_init_1 (Nat.le_of_ble_eq_true rfl) (Nat.le_of_ble_eq_true rfl) ?_
  refine W.eq (g2 := F0 m 4 ls []) rfl ?_
  refine lv_aload_n hx hb dX6_init_4 rfl (lv_at hl 0 rfl) ?_
  refine lv_bipush (v := nZ 6) hx hb dX6_init_5 (by decide) ?_
  refine va_put (D := D) (ci := 6) (v := .int (nZ 6)) (ty := .int) (C := RX6) (T := TX6) (N := 7) hx hb hts iX6 tyX6 tyX6_ok nmX6 hown hK hP hD hS 0 rfl rfl 0 (by decide) (hts (.fieldLink RX6 7 "RainTarget$Settings" "overs" "I") (List.mem_of_getElem? (i := 4) rfl)) (fun _ h9 => h9) rfl (by decide +kernel) rfl rfl (Nat.le_of_ble_eq_true rfl) dX6_init_7 (fun H locs hP hD hS => ?_)
  have hP : va_P D vwCl [(h, .inr (6, [.int (nZ 6), .int (nZ 0), .int (nZ 0), .int (nZ 0), .int (nZ 0), .int (nZ 0), .int (nZ 0)]))] H := hP
  have hD : va_D A [(h, .inr (6, [.int (nZ 6), .int (nZ 0), .int (nZ 0), .int (nZ 0), .int (nZ 0), .int (nZ 0), .int (nZ 0)]))] := hD
  refine lv_aload_n hx hb dX6_init_10 rfl (lv_at hl 0 rfl) ?_
  refine lv_iconst (v := nZ 3) hx hb dX6_init_11 rfl ?_
  refine va_put (D := D) (ci := 6) (v := .int (nZ 3)) (ty := .int) (C := RX6) (T := TX6) (N := 7) hx hb hts iX6 tyX6 tyX6_ok nmX6 hown hK hP hD hS 0 rfl rfl 1 (by decide) (hts (.fieldLink RX6 13 "RainTarget$Settings" "men" "I") (List.mem_of_getElem? (i := 5) rfl)) (fun _ h9 => h9) rfl (by decide +kernel) rfl rfl (Nat.le_of_ble_eq_true rfl) dX6_init_12 (fun H locs hP hD hS => ?_)
  have hP : va_P D vwCl [(h, .inr (6, [.int (nZ 6), .int (nZ 3), .int (nZ 0), .int (nZ 0), .int (nZ 0), .int (nZ 0), .int (nZ 0)]))] H := hP
  have hD : va_D A [(h, .inr (6, [.int (nZ 6), .int (nZ 3), .int (nZ 0), .int (nZ 0), .int (nZ 0), .int (nZ 0), .int (nZ 0)]))] := hD
  refine lv_aload_n hx hb dX6_init_15 rfl (lv_at hl 0 rfl) ?_
  refine lv_bipush (v := nZ 100) hx hb dX6_init_16 (by decide) ?_
  refine va_put (D := D) (ci := 6) (v := .int (nZ 100)) (ty := .int) (C := RX6) (T := TX6) (N := 7) hx hb hts iX6 tyX6 tyX6_ok nmX6 hown hK hP hD hS 0 rfl rfl 2 (by decide) (hts (.fieldLink RX6 16 "RainTarget$Settings" "par" "I") (List.mem_of_getElem? (i := 6) rfl)) (fun _ h9 => h9) rfl (by decide +kernel) rfl rfl (Nat.le_of_ble_eq_true rfl) dX6_init_18 (fun H locs hP hD hS => ?_)
  have hP : va_P D vwCl [(h, .inr (6, [.int (nZ 6), .int (nZ 3), .int (nZ 100), .int (nZ 0), .int (nZ 0), .int (nZ 0), .int (nZ 0)]))] H := hP
  have hD : va_D A [(h, .inr (6, [.int (nZ 6), .int (nZ 3), .int (nZ 100), .int (nZ 0), .int (nZ 0), .int (nZ 0), .int (nZ 0)]))] := hD
  refine lv_aload_n hx hb dX6_init_21 rfl (lv_at hl 0 rfl) ?_
  refine lv_bipush (v := nZ 100) hx hb dX6_init_22 (by decide) ?_
  refine va_put (D := D) (ci := 6) (v := .int (nZ 100)) (ty := .int) (C := RX6) (T := TX6) (N := 7) hx hb hts iX6 tyX6 tyX6_ok nmX6 hown hK hP hD hS 0 rfl rfl 3 (by decide) (hts (.fieldLink RX6 19 "RainTarget$Settings" "bend" "I") (List.mem_of_getElem? (i := 7) rfl)) (fun _ h9 => h9) rfl (by decide +kernel) rfl rfl (Nat.le_of_ble_eq_true rfl) dX6_init_24 (fun H locs hP hD hS => ?_)
  have hP : va_P D vwCl [(h, .inr (6, [.int (nZ 6), .int (nZ 3), .int (nZ 100), .int (nZ 100), .int (nZ 0), .int (nZ 0), .int (nZ 0)]))] H := hP
  have hD : va_D A [(h, .inr (6, [.int (nZ 6), .int (nZ 3), .int (nZ 100), .int (nZ 100), .int (nZ 0), .int (nZ 0), .int (nZ 0)]))] := hD
  refine lv_aload_n hx hb dX6_init_27 rfl (lv_at hl 0 rfl) ?_
  refine lv_iconst (v := nZ 0) hx hb dX6_init_28 rfl ?_
  refine va_put (D := D) (ci := 6) (v := .int (nZ 0)) (ty := .int) (C := RX6) (T := TX6) (N := 7) hx hb hts iX6 tyX6 tyX6_ok nmX6 hown hK hP hD hS 0 rfl rfl 4 (by decide) (hts (.fieldLink RX6 22 "RainTarget$Settings" "cloudTenths" "I") (List.mem_of_getElem? (i := 8) rfl)) (fun _ h9 => h9) rfl (by decide +kernel) rfl rfl (Nat.le_of_ble_eq_true rfl) dX6_init_29 (fun H locs hP hD hS => ?_)
  have hP : va_P D vwCl [(h, .inr (6, [.int (nZ 6), .int (nZ 3), .int (nZ 100), .int (nZ 100), .int (nZ 0), .int (nZ 0), .int (nZ 0)]))] H := hP
  have hD : va_D A [(h, .inr (6, [.int (nZ 6), .int (nZ 3), .int (nZ 100), .int (nZ 100), .int (nZ 0), .int (nZ 0), .int (nZ 0)]))] := hD
  refine lv_aload_n hx hb dX6_init_32 rfl (lv_at hl 0 rfl) ?_
  refine lv_iconst (v := nZ 0) hx hb dX6_init_33 rfl ?_
  refine va_put (D := D) (ci := 6) (v := .int (nZ 0)) (ty := .int) (C := RX6) (T := TX6) (N := 7) hx hb hts iX6 tyX6 tyX6_ok nmX6 hown hK hP hD hS 0 rfl rfl 5 (by decide) (hts (.fieldLink RX6 25 "RainTarget$Settings" "cloudOvers" "I") (List.mem_of_getElem? (i := 9) rfl)) (fun _ h9 => h9) rfl (by decide +kernel) rfl rfl (Nat.le_of_ble_eq_true rfl) dX6_init_34 (fun H locs hP hD hS => ?_)
  have hP : va_P D vwCl [(h, .inr (6, [.int (nZ 6), .int (nZ 3), .int (nZ 100), .int (nZ 100), .int (nZ 0), .int (nZ 0), .int (nZ 0)]))] H := hP
  have hD : va_D A [(h, .inr (6, [.int (nZ 6), .int (nZ 3), .int (nZ 100), .int (nZ 100), .int (nZ 0), .int (nZ 0), .int (nZ 0)]))] := hD
  refine lv_aload_n hx hb dX6_init_37 rfl (lv_at hl 0 rfl) ?_
  refine lv_iconst (v := nZ 5) hx hb dX6_init_38 rfl ?_
  refine va_put (D := D) (ci := 6) (v := .int (nZ 5)) (ty := .int) (C := RX6) (T := TX6) (N := 7) hx hb hts iX6 tyX6 tyX6_ok nmX6 hown hK hP hD hS 0 rfl rfl 6 (by decide) (hts (.fieldLink RX6 28 "RainTarget$Settings" "line" "I") (List.mem_of_getElem? (i := 10) rfl)) (fun _ h9 => h9) rfl (by decide +kernel) rfl rfl (Nat.le_of_ble_eq_true rfl) dX6_init_39 (fun H locs hP hD hS => ?_)
  have hP : va_P D vwCl [(h, .inr (6, [.int (nZ 6), .int (nZ 3), .int (nZ 100), .int (nZ 100), .int (nZ 0), .int (nZ 0), .int (nZ 5)]))] H := hP
  have hD : va_D A [(h, .inr (6, [.int (nZ 6), .int (nZ 3), .int (nZ 100), .int (nZ 100), .int (nZ 0), .int (nZ 0), .int (nZ 5)]))] := hD
  have hP9 := hP.sub (ws' := [(h, .inr (6, [.int (nZ 6), .int (nZ 3), .int (nZ 100), .int (nZ 100), .int (nZ 0), .int (nZ 0), .int (nZ 5)]))]) [0] rfl
  have hD9 := hD.sub (ws' := [(h, .inr (6, [.int (nZ 6), .int (nZ 3), .int (nZ 100), .int (nZ 100), .int (nZ 0), .int (nZ 0), .int (nZ 5)]))]) [0] (by decide) rfl
  exact W.vret hx hb hr (fun t9 ht9 _ => ⟨⟨(), rfl, trivial, ⟨by rw [ht9]; exact hP9, hD9⟩⟩, hS.F ht9⟩) hS.2.2 dX6_init_42

set_option maxHeartbeats 4000000 in
set_option maxRecDepth 100000 in
theorem c_X3_init (l : Launch) (D : va_G) (cI cJ : ClassId) (tn : Nat) (sz : Nat) (h : Nat)   : Met l yX3_init wsX3_init ({ frames := 2, cells := 2, slots := 52, locals := 47 } : Room) (va_Pc [.ref h] (WrP D cI cJ tn [(h, .inr (3, [.null, .null]))] sz)) (va_Qv (fun u9 : Nat × Nat => True) (fun u9 t9 => WrQ D (va_A [(h, .inr (3, [.null, .null]))] sz) [(h, .inr (3, [.ref u9.1, .ref u9.2])), (u9.1, .inl (cI, 4, .inl (aZ cs0))), (u9.2, .inl (cI, 48, .inl (aZ mp0)))] t9) (va_A [(h, .inr (3, [.null, .null]))] sz)) 2 52 (va_A [(h, .inr (3, [.null, .null]))] sz) := by
  refine Met.ofW (cc := cX3_init) (maxL := 1) (ret := none) (by decide) rfl ?_
  intro p e s m args below meth c s₁ B hml hv
  obtain ⟨rfl, hsz, hE, hP, hD0⟩ := hv
  have hx := B.exec
  have hb := B.bytes
  have hr := B.returns
  have hts := atoms_spec (ws := wsX3_init) B.pre
  have hown : s.vm.findClass RX3 = some m.cls := findClass_of_methodNamed B.named
  have hlocks := B.notSynchronized
  have hin : meth.name = "<init>" := (name_of_methodNamed B.named B.method).1
  subst hsz
  have hD := hD0.self (sz := s.heap.size)
  generalize hAe : va_A [(h, .inr (3, [.null, .null]))] s.heap.size = A at hD hE ⊢
  have hA : ∀ q : Nat, s.heap.size ≤ q → A q := fun q h => by rw [← hAe]; exact Or.inr h
  have hS : va_S A s.heap s.heap [] := va_S.rf
  have hK := hE.1
  have hN := hE.2.1
  have hl := lv_entry ([.ref h]) (n := 1) (Nat.le_of_ble_eq_true rfl)
  rw [lg_entry_eq]
  generalize (lg_sl ([.ref h]) ++ List.replicate (1 - (lg_sl ([.ref h])).length) Slot.unset).toArray = ls at hl ⊢
  have hl : lv_has ls 1 [(0, .ref h)] := hl
  have iX3 : ∀ w ∈ u_ws RX3 TX3 2, w ∈ wsX3_init := fun _ h => List.mem_cons_of_mem _ (List.mem_append_right _ h)
  refine lv_aload_n hx hb dX3_init_0 rfl (lv_at hl 0 rfl) ?_
  refine W.objInit hx hb hown (hts (.methodLink RX3 3 objectInit) (List.mem_of_getElem? (i := 1) rfl)) (hts (.instanceMethod objectInit) (List.mem_of_getElem? (i := 2) rfl)) (hts (.code objectInit ⟨#[0xb1]⟩ 1 none) (List.mem_of_getElem? (i := 3) rfl)) rfl (by rw [hml]; exact hl.1) rfl dX3_init_1 (Nat.le_of_ble_eq_true rfl) (Nat.le_of_ble_eq_true rfl) ?_
  refine W.eq (g2 := F0 m 4 ls []) rfl ?_
  refine lv_aload_n hx hb dX3_init_4 rfl (lv_at hl 0 rfl) ?_
  refine lv_iconst (v := nZ 4) hx hb dX3_init_5 rfl ?_
  refine z_newI (N := 4) hx hb (hts (.arrayClass .int) (List.mem_of_getElem? (i := 4) rfl)) hK hP hD hS hA 0 rfl rfl (Nat.le_of_ble_eq_true rfl) (Nat.le_of_ble_eq_true rfl) (Nat.le_of_ble_eq_true rfl) dX3_init_6 (fun q6 H hP hD hS => ?_)
  have hP : va_P D vwCl [(h, .inr (3, [.null, .null])), (q6, .inl (cI, 4, .inl (aZ zF)))] H := hP
  have hD : va_D A [(h, .inr (3, [.null, .null])), (q6, .inl (cI, 4, .inl (aZ zF)))] := hD
  refine va_putF (D := D) (ci := 3) (v := .ref q6) (ty := (.array .int)) (C := RX3) (T := TX3) (N := 2) hx hb hts iX3 tyX3 tyX3_ok nmX3 hown hK hP hD hS 0 rfl rfl 0 (by decide) (hts (.fieldLink RX3 9 "RainTarget$Moods" "sizes" "[I") (List.mem_of_getElem? (i := 5) rfl)) (fun _ h9 => h9) rfl hin rfl (by decide +kernel) rfl rfl (Nat.le_of_ble_eq_true rfl) dX3_init_8 (fun H locs hP hD hS => ?_)
  have hP : va_P D vwCl [(h, .inr (3, [.ref q6, .null])), (q6, .inl (cI, 4, .inl (aZ zF)))] H := hP
  have hD : va_D A [(h, .inr (3, [.ref q6, .null])), (q6, .inl (cI, 4, .inl (aZ zF)))] := hD
  refine lv_aload_n hx hb dX3_init_11 rfl (lv_at hl 0 rfl) ?_
  refine lv_bipush (v := nZ 48) hx hb dX3_init_12 (by decide) ?_
  refine z_newI (N := 48) hx hb (hts (.arrayClass .int) (List.mem_of_getElem? (i := 4) rfl)) hK hP hD hS hA 0 rfl rfl (Nat.le_of_ble_eq_true rfl) (Nat.le_of_ble_eq_true rfl) (Nat.le_of_ble_eq_true rfl) dX3_init_14 (fun q14 H hP hD hS => ?_)
  have hP : va_P D vwCl [(h, .inr (3, [.ref q6, .null])), (q6, .inl (cI, 4, .inl (aZ zF))), (q14, .inl (cI, 48, .inl (aZ zF)))] H := hP
  have hD : va_D A [(h, .inr (3, [.ref q6, .null])), (q6, .inl (cI, 4, .inl (aZ zF))), (q14, .inl (cI, 48, .inl (aZ zF)))] := hD
  refine va_putF (D := D) (ci := 3) (v := .ref q14) (ty := (.array .int)) (C := RX3) (T := TX3) (N := 2) hx hb hts iX3 tyX3 tyX3_ok nmX3 hown hK hP hD hS 0 rfl rfl 1 (by decide) (hts (.fieldLink RX3 15 "RainTarget$Moods" "parts" "[I") (List.mem_of_getElem? (i := 6) rfl)) (fun _ h9 => h9) rfl hin rfl (by decide +kernel) rfl rfl (Nat.le_of_ble_eq_true rfl) dX3_init_16 (fun H locs hP hD hS => ?_)
  have hP : va_P D vwCl [(h, .inr (3, [.ref q6, .ref q14])), (q6, .inl (cI, 4, .inl (aZ zF))), (q14, .inl (cI, 48, .inl (aZ zF)))] H := hP
  have hD : va_D A [(h, .inr (3, [.ref q6, .ref q14])), (q6, .inl (cI, 4, .inl (aZ zF))), (q14, .inl (cI, 48, .inl (aZ zF)))] := hD
  refine lv_aload_n hx hb dX3_init_19 rfl (lv_at hl 0 rfl) ?_
  refine lv_iconst (v := nZ 0) hx hb dX3_init_20 rfl ?_
  refine lv_iconst (v := nZ 4) hx hb dX3_init_21 rfl ?_
  refine lv_iconst (v := nZ 0) hx hb dX3_init_22 rfl ?_
  refine lv_bipush (v := nZ 10) hx hb dX3_init_23 (by decide) ?_
  have hFc := va_free (wc := [(h, .inr (3, [.ref q6, .ref q14])), (q6, .inl (cI, 4, .inl (aZ zF))), (q14, .inl (cI, 48, .inl (aZ zF)))]) hD hS hA [0, 1, 2] rfl
  have hPc := hP.sub (ws' := [(h, .inr (3, [.ref q6, .ref q14])), (q6, .inl (cI, 4, .inl (aZ zF))), (q14, .inl (cI, 48, .inl (aZ zF)))]) [0, 1, 2] rfl
  have hDc := hD.sub (ws' := [(h, .inr (3, [.ref q6, .ref q14])), (q6, .inl (cI, 4, .inl (aZ zF))), (q14, .inl (cI, 48, .inl (aZ zF)))]) [0, 1, 2] (by decide) rfl
  refine va_callv (va_runV (As := [.int (nZ 0), .int (nZ 4), .int (nZ 0), .int (nZ 10)]) (rest := []) ⟨hx, hb, hml, hown, hts⟩ (c_X3_add l D cI cJ tn H.size h q6 q14 zF zF 0 4 0 10 (by first | assumption | omega) (by first | assumption | omega) (by decide) (by decide) ) (cwV 4 hts gX3_init_X3_add rfl rfl rfl (by decide +kernel) ⟨Nat.le_of_ble_eq_true rfl, Nat.le_of_ble_eq_true rfl⟩) ⟨WrP.blind, va_recv hK hP (ci := 3) (q0 := 0) rfl rfl, fun U hU hW => ⟨rfl, WrP.call hE hS hPc hDc hFc hU hW⟩⟩ rfl rfl hl.1 rfl (lv_room (Nat.le_of_ble_eq_true rfl)) dX3_init_25 ⟨Nat.le_of_ble_eq_true rfl, Nat.le_of_ble_eq_true rfl⟩) hS (fun q _ h => hFc q h) hFc (fun u9 t9 H1 locs ht9 hvm hv25 hB9 hz9 hk9 hS => ?_)
  obtain ⟨hP8, hD8⟩ := hB9
  rw [ht9] at hP8
  have hw25 : True := hv25
  obtain ⟨hP, hD⟩ := va_join (wr := []) (w1 := [(h, .inr (3, [.ref q6, .ref q14])), (q6, .inl (cI, 4, .inl (aZ (uZ zF 0 (zF 0 + 1))))), (q14, .inl (cI, 48, .inl (aZ (mdF zF ((0 * 4 + zF 0) * 3) 4 0 10))))]) hP hD [0, 1, 2] [] rfl rfl (by decide) (by decide) hk9 hFc hP8 hD8
  generalize H1 = H at hP hS ⊢
  have hP : va_P D vwCl [(h, .inr (3, [.ref q6, .ref q14])), (q6, .inl (cI, 4, .inl (aZ (uZ zF 0 (zF 0 + 1))))), (q14, .inl (cI, 48, .inl (aZ (mdF zF ((0 * 4 + zF 0) * 3) 4 0 10))))] H := hP
  have hD : va_D A [(h, .inr (3, [.ref q6, .ref q14])), (q6, .inl (cI, 4, .inl (aZ (uZ zF 0 (zF 0 + 1))))), (q14, .inl (cI, 48, .inl (aZ (mdF zF ((0 * 4 + zF 0) * 3) 4 0 10))))] := hD
  have hP9 := hP.sub (ws' := [(h, .inr (3, [.ref q6, .ref q14])), (q6, .inl (cI, 4, .inl (aZ (uZ zF 0 (zF 0 + 1))))), (q14, .inl (cI, 48, .inl (aZ (mdF zF ((0 * 4 + zF 0) * 3) 4 0 10))))]) [0, 1, 2] rfl
  have hD9 := hD.sub (ws' := [(h, .inr (3, [.ref q6, .ref q14])), (q6, .inl (cI, 4, .inl (aZ (uZ zF 0 (zF 0 + 1))))), (q14, .inl (cI, 48, .inl (aZ (mdF zF ((0 * 4 + zF 0) * 3) 4 0 10))))]) [0, 1, 2] (by decide) rfl
  have hq9 : ([(h, .inr (3, [.ref q6, .ref q14])), (q6, .inl (cI, 4, .inl (aZ (uZ zF 0 (zF 0 + 1))))), (q14, .inl (cI, 48, .inl (aZ (mdF zF ((0 * 4 + zF 0) * 3) 4 0 10))))] : va_W) = [(h, .inr (3, [.ref q6, .ref q14])), (q6, .inl (cI, 4, .inl (aZ cs0))), (q14, .inl (cI, 48, .inl (aZ mp0)))] := by rfl
  rw [hq9] at hP9 hD9
  refine W.widen (k := 2) (n := 52) (by omega) (by omega) ?_
  exact W.vret hx hb hr (fun t9 ht9 _ => ⟨⟨((q6), (q14)), rfl, trivial, ⟨by rw [ht9]; exact hP9, hD9⟩⟩, hS.F ht9⟩) hS.2.2 dX3_init_28

set_option maxHeartbeats 4000000 in
set_option maxRecDepth 100000 in
theorem c_X0_init (l : Launch) (D : va_G) (cI cJ : ClassId) (tn : Nat) (sz : Nat) (h : Nat) (q1 : Nat)   : Met l yX0_init wsX0_init ({ frames := 1, cells := 2, slots := 28223, locals := 12 } : Room) (va_Pc [.ref h, .ref q1] (WrP D cI cJ tn [(h, .inr (0, [.null, .null, .null]))] sz)) (va_Qv (fun u9 : Nat × Nat => True) (fun u9 t9 => WrQ D (va_A [(h, .inr (0, [.null, .null, .null]))] sz) [(h, .inr (0, [.ref q1, .ref u9.1, .ref u9.2])), (u9.1, .inl (cJ, 143, .inr (.inl (bZ zF)))), (u9.2, .inl (cJ, 28080, .inr (.inl (bZ zF))))] t9) (va_A [(h, .inr (0, [.null, .null, .null]))] sz)) 2 28223 (va_A [(h, .inr (0, [.null, .null, .null]))] sz) := by
  refine Met.ofW (cc := cX0_init) (maxL := 2) (ret := none) (by decide) rfl ?_
  intro p e s m args below meth c s₁ B hml hv
  obtain ⟨rfl, hsz, hE, hP, hD0⟩ := hv
  have hx := B.exec
  have hb := B.bytes
  have hr := B.returns
  have hts := atoms_spec (ws := wsX0_init) B.pre
  have hown : s.vm.findClass RX0 = some m.cls := findClass_of_methodNamed B.named
  have hlocks := B.notSynchronized
  have hin : meth.name = "<init>" := (name_of_methodNamed B.named B.method).1
  subst hsz
  have hD := hD0.self (sz := s.heap.size)
  generalize hAe : va_A [(h, .inr (0, [.null, .null, .null]))] s.heap.size = A at hD hE ⊢
  have hA : ∀ q : Nat, s.heap.size ≤ q → A q := fun q h => by rw [← hAe]; exact Or.inr h
  have hS : va_S A s.heap s.heap [] := va_S.rf
  have hK := hE.1
  have hN := hE.2.1
  have hl := lv_entry ([.ref h, .ref q1]) (n := 2) (Nat.le_of_ble_eq_true rfl)
  rw [lg_entry_eq]
  generalize (lg_sl ([.ref h, .ref q1]) ++ List.replicate (2 - (lg_sl ([.ref h, .ref q1])).length) Slot.unset).toArray = ls at hl ⊢
  have hl : lv_has ls 2 [(0, .ref h), (1, .ref q1)] := hl
  have iX0 : ∀ w ∈ u_ws RX0 TX0 3, w ∈ wsX0_init := fun _ h => List.mem_cons_of_mem _ (List.mem_append_right _ h)
  refine lv_aload_n hx hb dX0_init_0 rfl (lv_at hl 0 rfl) ?_
  refine W.objInit hx hb hown (hts (.methodLink RX0 3 objectInit) (List.mem_of_getElem? (i := 1) rfl)) (hts (.instanceMethod objectInit) (List.mem_of_getElem? (i := 2) rfl)) (hts (.code objectInit ⟨#[0xb1]⟩ 1 none) (List.mem_of_getElem? (i := 3) rfl)) rfl (by rw [hml]; exact hl.1) rfl dX0_init_1 (Nat.le_of_ble_eq_true rfl) (Nat.le_of_ble_eq_true rfl) ?_
  refine W.eq (g2 := F0 m 4 ls []) rfl ?_
  refine lv_aload_n hx hb dX0_init_4 rfl (lv_at hl 0 rfl) ?_
  refine lv_sipush (v := nZ 143) hx hb dX0_init_5 (by decide) ?_
  refine z_newJ (N := 143) hx hb (hts (.arrayClass .long) (List.mem_of_getElem? (i := 4) rfl)) hK hP hD hS hA 1 rfl rfl (Nat.le_of_ble_eq_true rfl) (Nat.le_of_ble_eq_true rfl) (Nat.le_of_ble_eq_true rfl) dX0_init_8 (fun q8 H hP hD hS => ?_)
  have hP : va_P D vwCl [(h, .inr (0, [.null, .null, .null])), (q8, .inl (cJ, 143, .inr (.inl (bZ zF))))] H := hP
  have hD : va_D A [(h, .inr (0, [.null, .null, .null])), (q8, .inl (cJ, 143, .inr (.inl (bZ zF))))] := hD
  refine va_putF (D := D) (ci := 0) (v := .ref q8) (ty := (.array .long)) (C := RX0) (T := TX0) (N := 3) hx hb hts iX0 tyX0 tyX0_ok nmX0 hown hK hP hD hS 0 rfl rfl 1 (by decide) (hts (.fieldLink RX0 9 "RainTarget$Batting" "means" "[J") (List.mem_of_getElem? (i := 5) rfl)) (fun _ h9 => h9) rfl hin rfl (by decide +kernel) rfl rfl (Nat.le_of_ble_eq_true rfl) dX0_init_10 (fun H locs hP hD hS => ?_)
  have hP : va_P D vwCl [(h, .inr (0, [.null, .ref q8, .null])), (q8, .inl (cJ, 143, .inr (.inl (bZ zF))))] H := hP
  have hD : va_D A [(h, .inr (0, [.null, .ref q8, .null])), (q8, .inl (cJ, 143, .inr (.inl (bZ zF))))] := hD
  refine lv_aload_n hx hb dX0_init_13 rfl (lv_at hl 0 rfl) ?_
  refine lv_sipush (v := nZ 28080) hx hb dX0_init_14 (by decide) ?_
  refine z_newJ (N := 28080) hx hb (hts (.arrayClass .long) (List.mem_of_getElem? (i := 4) rfl)) hK hP hD hS hA 1 rfl rfl (Nat.le_of_ble_eq_true rfl) (Nat.le_of_ble_eq_true rfl) (Nat.le_of_ble_eq_true rfl) dX0_init_17 (fun q17 H hP hD hS => ?_)
  have hP : va_P D vwCl [(h, .inr (0, [.null, .ref q8, .null])), (q8, .inl (cJ, 143, .inr (.inl (bZ zF)))), (q17, .inl (cJ, 28080, .inr (.inl (bZ zF))))] H := hP
  have hD : va_D A [(h, .inr (0, [.null, .ref q8, .null])), (q8, .inl (cJ, 143, .inr (.inl (bZ zF)))), (q17, .inl (cJ, 28080, .inr (.inl (bZ zF))))] := hD
  refine va_putF (D := D) (ci := 0) (v := .ref q17) (ty := (.array .long)) (C := RX0) (T := TX0) (N := 3) hx hb hts iX0 tyX0 tyX0_ok nmX0 hown hK hP hD hS 0 rfl rfl 2 (by decide) (hts (.fieldLink RX0 15 "RainTarget$Batting" "chances" "[J") (List.mem_of_getElem? (i := 6) rfl)) (fun _ h9 => h9) rfl hin rfl (by decide +kernel) rfl rfl (Nat.le_of_ble_eq_true rfl) dX0_init_19 (fun H locs hP hD hS => ?_)
  have hP : va_P D vwCl [(h, .inr (0, [.null, .ref q8, .ref q17])), (q8, .inl (cJ, 143, .inr (.inl (bZ zF)))), (q17, .inl (cJ, 28080, .inr (.inl (bZ zF))))] H := hP
  have hD : va_D A [(h, .inr (0, [.null, .ref q8, .ref q17])), (q8, .inl (cJ, 143, .inr (.inl (bZ zF)))), (q17, .inl (cJ, 28080, .inr (.inl (bZ zF))))] := hD
  refine lv_aload_n hx hb dX0_init_22 rfl (lv_at hl 0 rfl) ?_
  refine lv_aload_n hx hb dX0_init_23 rfl (lv_at hl 1 rfl) ?_
  refine va_putF (D := D) (ci := 0) (v := .ref q1) (ty := (.object "RainTarget$Moods")) (C := RX0) (T := TX0) (N := 3) hx hb hts iX0 tyX0 tyX0_ok nmX0 hown hK hP hD hS 0 rfl rfl 0 (by decide) (hts (.fieldLink RX0 18 "RainTarget$Batting" "moods" "LRainTarget$Moods;") (List.mem_of_getElem? (i := 7) rfl)) (fun _ h9 => h9) rfl hin rfl (by decide +kernel) rfl rfl (Nat.le_of_ble_eq_true rfl) dX0_init_24 (fun H locs hP hD hS => ?_)
  have hP : va_P D vwCl [(h, .inr (0, [.ref q1, .ref q8, .ref q17])), (q8, .inl (cJ, 143, .inr (.inl (bZ zF)))), (q17, .inl (cJ, 28080, .inr (.inl (bZ zF))))] H := hP
  have hD : va_D A [(h, .inr (0, [.ref q1, .ref q8, .ref q17])), (q8, .inl (cJ, 143, .inr (.inl (bZ zF)))), (q17, .inl (cJ, 28080, .inr (.inl (bZ zF))))] := hD
  have hP9 := hP.sub (ws' := [(h, .inr (0, [.ref q1, .ref q8, .ref q17])), (q8, .inl (cJ, 143, .inr (.inl (bZ zF)))), (q17, .inl (cJ, 28080, .inr (.inl (bZ zF))))]) [0, 1, 2] rfl
  have hD9 := hD.sub (ws' := [(h, .inr (0, [.ref q1, .ref q8, .ref q17])), (q8, .inl (cJ, 143, .inr (.inl (bZ zF)))), (q17, .inl (cJ, 28080, .inr (.inl (bZ zF))))]) [0, 1, 2] (by decide) rfl
  refine W.widen (k := 2) (n := 28223) (by omega) (by omega) ?_
  exact W.vret hx hb hr (fun t9 ht9 _ => ⟨⟨((q8), (q17)), rfl, trivial, ⟨by rw [ht9]; exact hP9, hD9⟩⟩, hS.F ht9⟩) hS.2.2 dX0_init_27

set_option maxHeartbeats 4000000 in
set_option maxRecDepth 100000 in
theorem c_X1_init (l : Launch) (D : va_G) (cI cJ : ClassId) (tn : Nat) (sz : Nat) (h : Nat)   : Met l yX1_init wsX1_init ({ frames := 1, cells := 1, slots := 12, locals := 12 } : Room) (va_Pc [.ref h] (WrP D cI cJ tn [(h, .inr (1, [.null, .int (nZ 0), .int (nZ 0)]))] sz)) (va_Qv (fun u9 : Nat => True) (fun u9 t9 => WrQ D (va_A [(h, .inr (1, [.null, .int (nZ 0), .int (nZ 0)]))] sz) [(h, .inr (1, [.ref u9, .int (nZ 0), .int (nZ 0)])), (u9, .inl (cI, 12, .inl (aZ zF)))] t9) (va_A [(h, .inr (1, [.null, .int (nZ 0), .int (nZ 0)]))] sz)) 1 12 (va_A [(h, .inr (1, [.null, .int (nZ 0), .int (nZ 0)]))] sz) := by
  refine Met.ofW (cc := cX1_init) (maxL := 1) (ret := none) (by decide) rfl ?_
  intro p e s m args below meth c s₁ B hml hv
  obtain ⟨rfl, hsz, hE, hP, hD0⟩ := hv
  have hx := B.exec
  have hb := B.bytes
  have hr := B.returns
  have hts := atoms_spec (ws := wsX1_init) B.pre
  have hown : s.vm.findClass RX1 = some m.cls := findClass_of_methodNamed B.named
  have hlocks := B.notSynchronized
  have hin : meth.name = "<init>" := (name_of_methodNamed B.named B.method).1
  subst hsz
  have hD := hD0.self (sz := s.heap.size)
  generalize hAe : va_A [(h, .inr (1, [.null, .int (nZ 0), .int (nZ 0)]))] s.heap.size = A at hD hE ⊢
  have hA : ∀ q : Nat, s.heap.size ≤ q → A q := fun q h => by rw [← hAe]; exact Or.inr h
  have hS : va_S A s.heap s.heap [] := va_S.rf
  have hK := hE.1
  have hN := hE.2.1
  have hl := lv_entry ([.ref h]) (n := 1) (Nat.le_of_ble_eq_true rfl)
  rw [lg_entry_eq]
  generalize (lg_sl ([.ref h]) ++ List.replicate (1 - (lg_sl ([.ref h])).length) Slot.unset).toArray = ls at hl ⊢
  have hl : lv_has ls 1 [(0, .ref h)] := hl
  have iX1 : ∀ w ∈ u_ws RX1 TX1 3, w ∈ wsX1_init := fun _ h => List.mem_cons_of_mem _ (List.mem_append_right _ h)
  refine lv_aload_n hx hb dX1_init_0 rfl (lv_at hl 0 rfl) ?_
  refine W.objInit hx hb hown (hts (.methodLink RX1 3 objectInit) (List.mem_of_getElem? (i := 1) rfl)) (hts (.instanceMethod objectInit) (List.mem_of_getElem? (i := 2) rfl)) (hts (.code objectInit ⟨#[0xb1]⟩ 1 none) (List.mem_of_getElem? (i := 3) rfl)) rfl (by rw [hml]; exact hl.1) rfl dX1_init_1 (Nat.le_of_ble_eq_true rfl) (Nat.le_of_ble_eq_true rfl) ?_
  refine W.eq (g2 := F0 m 4 ls []) rfl ?_
  refine lv_aload_n hx hb dX1_init_4 rfl (lv_at hl 0 rfl) ?_
  refine lv_bipush (v := nZ 12) hx hb dX1_init_5 (by decide) ?_
  refine z_newI (N := 12) hx hb (hts (.arrayClass .int) (List.mem_of_getElem? (i := 4) rfl)) hK hP hD hS hA 0 rfl rfl (Nat.le_of_ble_eq_true rfl) (Nat.le_of_ble_eq_true rfl) (Nat.le_of_ble_eq_true rfl) dX1_init_7 (fun q7 H hP hD hS => ?_)
  have hP : va_P D vwCl [(h, .inr (1, [.null, .int (nZ 0), .int (nZ 0)])), (q7, .inl (cI, 12, .inl (aZ zF)))] H := hP
  have hD : va_D A [(h, .inr (1, [.null, .int (nZ 0), .int (nZ 0)])), (q7, .inl (cI, 12, .inl (aZ zF)))] := hD
  refine va_putF (D := D) (ci := 1) (v := .ref q7) (ty := (.array .int)) (C := RX1) (T := TX1) (N := 3) hx hb hts iX1 tyX1 tyX1_ok nmX1 hown hK hP hD hS 0 rfl rfl 0 (by decide) (hts (.fieldLink RX1 9 "RainTarget$FirstSide" "overs" "[I") (List.mem_of_getElem? (i := 5) rfl)) (fun _ h9 => h9) rfl hin rfl (by decide +kernel) rfl rfl (Nat.le_of_ble_eq_true rfl) dX1_init_9 (fun H locs hP hD hS => ?_)
  have hP : va_P D vwCl [(h, .inr (1, [.ref q7, .int (nZ 0), .int (nZ 0)])), (q7, .inl (cI, 12, .inl (aZ zF)))] H := hP
  have hD : va_D A [(h, .inr (1, [.ref q7, .int (nZ 0), .int (nZ 0)])), (q7, .inl (cI, 12, .inl (aZ zF)))] := hD
  have hP9 := hP.sub (ws' := [(h, .inr (1, [.ref q7, .int (nZ 0), .int (nZ 0)])), (q7, .inl (cI, 12, .inl (aZ zF)))]) [0, 1] rfl
  have hD9 := hD.sub (ws' := [(h, .inr (1, [.ref q7, .int (nZ 0), .int (nZ 0)])), (q7, .inl (cI, 12, .inl (aZ zF)))]) [0, 1] (by decide) rfl
  refine W.widen (k := 1) (n := 12) (by omega) (by omega) ?_
  exact W.vret hx hb hr (fun t9 ht9 _ => ⟨⟨(q7), rfl, trivial, ⟨by rw [ht9]; exact hP9, hD9⟩⟩, hS.F ht9⟩) hS.2.2 dX1_init_12

set_option maxHeartbeats 4000000 in
set_option maxRecDepth 100000 in
theorem c_X5_init (l : Launch) (D : va_G) (cI cJ : ClassId) (tn : Nat) (sz : Nat) (h : Nat)   : Met l yX5_init wsX5_init ({ frames := 1, cells := 1, slots := 144, locals := 12 } : Room) (va_Pc [.ref h] (WrP D cI cJ tn [(h, .inr (5, [.null, .int (nZ 0), .int (nZ 0), .int (nZ 0), .int (nZ 0)]))] sz)) (va_Qv (fun u9 : Nat => True) (fun u9 t9 => WrQ D (va_A [(h, .inr (5, [.null, .int (nZ 0), .int (nZ 0), .int (nZ 0), .int (nZ 0)]))] sz) [(h, .inr (5, [.ref u9, .int (nZ 0), .int (nZ 0), .int (nZ 0), .int (nZ 0)])), (u9, .inl (cI, 144, .inl (aZ zF)))] t9) (va_A [(h, .inr (5, [.null, .int (nZ 0), .int (nZ 0), .int (nZ 0), .int (nZ 0)]))] sz)) 1 144 (va_A [(h, .inr (5, [.null, .int (nZ 0), .int (nZ 0), .int (nZ 0), .int (nZ 0)]))] sz) := by
  refine Met.ofW (cc := cX5_init) (maxL := 1) (ret := none) (by decide) rfl ?_
  intro p e s m args below meth c s₁ B hml hv
  obtain ⟨rfl, hsz, hE, hP, hD0⟩ := hv
  have hx := B.exec
  have hb := B.bytes
  have hr := B.returns
  have hts := atoms_spec (ws := wsX5_init) B.pre
  have hown : s.vm.findClass RX5 = some m.cls := findClass_of_methodNamed B.named
  have hlocks := B.notSynchronized
  have hin : meth.name = "<init>" := (name_of_methodNamed B.named B.method).1
  subst hsz
  have hD := hD0.self (sz := s.heap.size)
  generalize hAe : va_A [(h, .inr (5, [.null, .int (nZ 0), .int (nZ 0), .int (nZ 0), .int (nZ 0)]))] s.heap.size = A at hD hE ⊢
  have hA : ∀ q : Nat, s.heap.size ≤ q → A q := fun q h => by rw [← hAe]; exact Or.inr h
  have hS : va_S A s.heap s.heap [] := va_S.rf
  have hK := hE.1
  have hN := hE.2.1
  have hl := lv_entry ([.ref h]) (n := 1) (Nat.le_of_ble_eq_true rfl)
  rw [lg_entry_eq]
  generalize (lg_sl ([.ref h]) ++ List.replicate (1 - (lg_sl ([.ref h])).length) Slot.unset).toArray = ls at hl ⊢
  have hl : lv_has ls 1 [(0, .ref h)] := hl
  have iX5 : ∀ w ∈ u_ws RX5 TX5 5, w ∈ wsX5_init := fun _ h => List.mem_cons_of_mem _ (List.mem_append_right _ h)
  refine lv_aload_n hx hb dX5_init_0 rfl (lv_at hl 0 rfl) ?_
  refine W.objInit hx hb hown (hts (.methodLink RX5 3 objectInit) (List.mem_of_getElem? (i := 1) rfl)) (hts (.instanceMethod objectInit) (List.mem_of_getElem? (i := 2) rfl)) (hts (.code objectInit ⟨#[0xb1]⟩ 1 none) (List.mem_of_getElem? (i := 3) rfl)) rfl (by rw [hml]; exact hl.1) rfl dX5_init_1 (Nat.le_of_ble_eq_true rfl) (Nat.le_of_ble_eq_true rfl) ?_
  refine W.eq (g2 := F0 m 4 ls []) rfl ?_
  refine lv_aload_n hx hb dX5_init_4 rfl (lv_at hl 0 rfl) ?_
  refine lv_sipush (v := nZ 144) hx hb dX5_init_5 (by decide) ?_
  refine z_newI (N := 144) hx hb (hts (.arrayClass .int) (List.mem_of_getElem? (i := 4) rfl)) hK hP hD hS hA 0 rfl rfl (Nat.le_of_ble_eq_true rfl) (Nat.le_of_ble_eq_true rfl) (Nat.le_of_ble_eq_true rfl) dX5_init_8 (fun q8 H hP hD hS => ?_)
  have hP : va_P D vwCl [(h, .inr (5, [.null, .int (nZ 0), .int (nZ 0), .int (nZ 0), .int (nZ 0)])), (q8, .inl (cI, 144, .inl (aZ zF)))] H := hP
  have hD : va_D A [(h, .inr (5, [.null, .int (nZ 0), .int (nZ 0), .int (nZ 0), .int (nZ 0)])), (q8, .inl (cI, 144, .inl (aZ zF)))] := hD
  refine va_putF (D := D) (ci := 5) (v := .ref q8) (ty := (.array .int)) (C := RX5) (T := TX5) (N := 5) hx hb hts iX5 tyX5 tyX5_ok nmX5 hown hK hP hD hS 0 rfl rfl 0 (by decide) (hts (.fieldLink RX5 11 "RainTarget$SecondSide" "events" "[I") (List.mem_of_getElem? (i := 5) rfl)) (fun _ h9 => h9) rfl hin rfl (by decide +kernel) rfl rfl (Nat.le_of_ble_eq_true rfl) dX5_init_10 (fun H locs hP hD hS => ?_)
  have hP : va_P D vwCl [(h, .inr (5, [.ref q8, .int (nZ 0), .int (nZ 0), .int (nZ 0), .int (nZ 0)])), (q8, .inl (cI, 144, .inl (aZ zF)))] H := hP
  have hD : va_D A [(h, .inr (5, [.ref q8, .int (nZ 0), .int (nZ 0), .int (nZ 0), .int (nZ 0)])), (q8, .inl (cI, 144, .inl (aZ zF)))] := hD
  have hP9 := hP.sub (ws' := [(h, .inr (5, [.ref q8, .int (nZ 0), .int (nZ 0), .int (nZ 0), .int (nZ 0)])), (q8, .inl (cI, 144, .inl (aZ zF)))]) [0, 1] rfl
  have hD9 := hD.sub (ws' := [(h, .inr (5, [.ref q8, .int (nZ 0), .int (nZ 0), .int (nZ 0), .int (nZ 0)])), (q8, .inl (cI, 144, .inl (aZ zF)))]) [0, 1] (by decide) rfl
  refine W.widen (k := 1) (n := 144) (by omega) (by omega) ?_
  exact W.vret hx hb hr (fun t9 ht9 _ => ⟨⟨(q8), rfl, trivial, ⟨by rw [ht9]; exact hP9, hD9⟩⟩, hS.F ht9⟩) hS.2.2 dX5_init_13

set_option maxHeartbeats 4000000 in
set_option maxRecDepth 100000 in
theorem c_X8_init (l : Launch) (D : va_G) (cI cJ : ClassId) (tn : Nat) (sz : Nat) (h : Nat) (g : Nat) (b : Nat) (f : Nat)   : Met l yX8_init wsX8_init ({ frames := 1, cells := 1, slots := 13, locals := 12 } : Room) (va_Pc [.ref h, .ref g, .ref b, .ref f] (WrP D cI cJ tn [(h, .inr (8, [.null, .null, .null, .null, .int (nZ 0), .int (nZ 0), .int (nZ 0), .int (nZ 0)]))] sz)) (va_Qv (fun u9 : Nat => True) (fun u9 t9 => WrQ D (va_A [(h, .inr (8, [.null, .null, .null, .null, .int (nZ 0), .int (nZ 0), .int (nZ 0), .int (nZ 0)]))] sz) [(h, .inr (8, [.ref g, .ref b, .ref f, .ref u9, .int (nZ 0), .int (nZ 0), .int (nZ 0), .int (nZ 0)])), (u9, .inl (cI, 13, .inl (aZ zF)))] t9) (va_A [(h, .inr (8, [.null, .null, .null, .null, .int (nZ 0), .int (nZ 0), .int (nZ 0), .int (nZ 0)]))] sz)) 1 13 (va_A [(h, .inr (8, [.null, .null, .null, .null, .int (nZ 0), .int (nZ 0), .int (nZ 0), .int (nZ 0)]))] sz) := by
  refine Met.ofW (cc := cX8_init) (maxL := 4) (ret := none) (by decide) rfl ?_
  intro p e s m args below meth c s₁ B hml hv
  obtain ⟨rfl, hsz, hE, hP, hD0⟩ := hv
  have hx := B.exec
  have hb := B.bytes
  have hr := B.returns
  have hts := atoms_spec (ws := wsX8_init) B.pre
  have hown : s.vm.findClass RX8 = some m.cls := findClass_of_methodNamed B.named
  have hlocks := B.notSynchronized
  have hin : meth.name = "<init>" := (name_of_methodNamed B.named B.method).1
  subst hsz
  have hD := hD0.self (sz := s.heap.size)
  generalize hAe : va_A [(h, .inr (8, [.null, .null, .null, .null, .int (nZ 0), .int (nZ 0), .int (nZ 0), .int (nZ 0)]))] s.heap.size = A at hD hE ⊢
  have hA : ∀ q : Nat, s.heap.size ≤ q → A q := fun q h => by rw [← hAe]; exact Or.inr h
  have hS : va_S A s.heap s.heap [] := va_S.rf
  have hK := hE.1
  have hN := hE.2.1
  have hl := lv_entry ([.ref h, .ref g, .ref b, .ref f]) (n := 4) (Nat.le_of_ble_eq_true rfl)
  rw [lg_entry_eq]
  generalize (lg_sl ([.ref h, .ref g, .ref b, .ref f]) ++ List.replicate (4 - (lg_sl ([.ref h, .ref g, .ref b, .ref f])).length) Slot.unset).toArray = ls at hl ⊢
  have hl : lv_has ls 4 [(0, .ref h), (1, .ref g), (2, .ref b), (3, .ref f)] := hl
  have iX8 : ∀ w ∈ u_ws RX8 TX8 8, w ∈ wsX8_init := fun _ h => List.mem_cons_of_mem _ (List.mem_append_right _ h)
  refine lv_aload_n hx hb dX8_init_0 rfl (lv_at hl 0 rfl) ?_
  refine W.objInit hx hb hown (hts (.methodLink RX8 3 objectInit) (List.mem_of_getElem? (i := 1) rfl)) (hts (.instanceMethod objectInit) (List.mem_of_getElem? (i := 2) rfl)) (hts (.code objectInit ⟨#[0xb1]⟩ 1 none) (List.mem_of_getElem? (i := 3) rfl)) rfl (by rw [hml]; exact hl.1) rfl dX8_init_1 (Nat.le_of_ble_eq_true rfl) (Nat.le_of_ble_eq_true rfl) ?_
  refine W.eq (g2 := F0 m 4 ls []) rfl ?_
  refine lv_aload_n hx hb dX8_init_4 rfl (lv_at hl 0 rfl) ?_
  refine lv_bipush (v := nZ 13) hx hb dX8_init_5 (by decide) ?_
  refine z_newI (N := 13) hx hb (hts (.arrayClass .int) (List.mem_of_getElem? (i := 4) rfl)) hK hP hD hS hA 0 rfl rfl (Nat.le_of_ble_eq_true rfl) (Nat.le_of_ble_eq_true rfl) (Nat.le_of_ble_eq_true rfl) dX8_init_7 (fun q7 H hP hD hS => ?_)
  have hP : va_P D vwCl [(h, .inr (8, [.null, .null, .null, .null, .int (nZ 0), .int (nZ 0), .int (nZ 0), .int (nZ 0)])), (q7, .inl (cI, 13, .inl (aZ zF)))] H := hP
  have hD : va_D A [(h, .inr (8, [.null, .null, .null, .null, .int (nZ 0), .int (nZ 0), .int (nZ 0), .int (nZ 0)])), (q7, .inl (cI, 13, .inl (aZ zF)))] := hD
  refine va_putF (D := D) (ci := 8) (v := .ref q7) (ty := (.array .int)) (C := RX8) (T := TX8) (N := 8) hx hb hts iX8 tyX8 tyX8_ok nmX8 hown hK hP hD hS 0 rfl rfl 3 (by decide) (hts (.fieldLink RX8 9 "RainTarget$Umpire" "keptOdds" "[I") (List.mem_of_getElem? (i := 5) rfl)) (fun _ h9 => h9) rfl hin rfl (by decide +kernel) rfl rfl (Nat.le_of_ble_eq_true rfl) dX8_init_9 (fun H locs hP hD hS => ?_)
  have hP : va_P D vwCl [(h, .inr (8, [.null, .null, .null, .ref q7, .int (nZ 0), .int (nZ 0), .int (nZ 0), .int (nZ 0)])), (q7, .inl (cI, 13, .inl (aZ zF)))] H := hP
  have hD : va_D A [(h, .inr (8, [.null, .null, .null, .ref q7, .int (nZ 0), .int (nZ 0), .int (nZ 0), .int (nZ 0)])), (q7, .inl (cI, 13, .inl (aZ zF)))] := hD
  refine lv_aload_n hx hb dX8_init_12 rfl (lv_at hl 0 rfl) ?_
  refine lv_aload_n hx hb dX8_init_13 rfl (lv_at hl 1 rfl) ?_
  refine va_putF (D := D) (ci := 8) (v := .ref g) (ty := (.object "RainTarget$Settings")) (C := RX8) (T := TX8) (N := 8) hx hb hts iX8 tyX8 tyX8_ok nmX8 hown hK hP hD hS 0 rfl rfl 0 (by decide) (hts (.fieldLink RX8 15 "RainTarget$Umpire" "settings" "LRainTarget$Settings;") (List.mem_of_getElem? (i := 6) rfl)) (fun _ h9 => h9) rfl hin rfl (by decide +kernel) rfl rfl (Nat.le_of_ble_eq_true rfl) dX8_init_14 (fun H locs hP hD hS => ?_)
  have hP : va_P D vwCl [(h, .inr (8, [.ref g, .null, .null, .ref q7, .int (nZ 0), .int (nZ 0), .int (nZ 0), .int (nZ 0)])), (q7, .inl (cI, 13, .inl (aZ zF)))] H := hP
  have hD : va_D A [(h, .inr (8, [.ref g, .null, .null, .ref q7, .int (nZ 0), .int (nZ 0), .int (nZ 0), .int (nZ 0)])), (q7, .inl (cI, 13, .inl (aZ zF)))] := hD
  refine lv_aload_n hx hb dX8_init_17 rfl (lv_at hl 0 rfl) ?_
  refine lv_aload_n hx hb dX8_init_18 rfl (lv_at hl 2 rfl) ?_
  refine va_putF (D := D) (ci := 8) (v := .ref b) (ty := (.object "RainTarget$Batting")) (C := RX8) (T := TX8) (N := 8) hx hb hts iX8 tyX8 tyX8_ok nmX8 hown hK hP hD hS 0 rfl rfl 1 (by decide) (hts (.fieldLink RX8 19 "RainTarget$Umpire" "batting" "LRainTarget$Batting;") (List.mem_of_getElem? (i := 7) rfl)) (fun _ h9 => h9) rfl hin rfl (by decide +kernel) rfl rfl (Nat.le_of_ble_eq_true rfl) dX8_init_19 (fun H locs hP hD hS => ?_)
  have hP : va_P D vwCl [(h, .inr (8, [.ref g, .ref b, .null, .ref q7, .int (nZ 0), .int (nZ 0), .int (nZ 0), .int (nZ 0)])), (q7, .inl (cI, 13, .inl (aZ zF)))] H := hP
  have hD : va_D A [(h, .inr (8, [.ref g, .ref b, .null, .ref q7, .int (nZ 0), .int (nZ 0), .int (nZ 0), .int (nZ 0)])), (q7, .inl (cI, 13, .inl (aZ zF)))] := hD
  refine lv_aload_n hx hb dX8_init_22 rfl (lv_at hl 0 rfl) ?_
  refine lv_aload_n hx hb dX8_init_23 rfl (lv_at hl 3 rfl) ?_
  refine va_putF (D := D) (ci := 8) (v := .ref f) (ty := (.object "RainTarget$FirstSide")) (C := RX8) (T := TX8) (N := 8) hx hb hts iX8 tyX8 tyX8_ok nmX8 hown hK hP hD hS 0 rfl rfl 2 (by decide) (hts (.fieldLink RX8 23 "RainTarget$Umpire" "first" "LRainTarget$FirstSide;") (List.mem_of_getElem? (i := 8) rfl)) (fun _ h9 => h9) rfl hin rfl (by decide +kernel) rfl rfl (Nat.le_of_ble_eq_true rfl) dX8_init_24 (fun H locs hP hD hS => ?_)
  have hP : va_P D vwCl [(h, .inr (8, [.ref g, .ref b, .ref f, .ref q7, .int (nZ 0), .int (nZ 0), .int (nZ 0), .int (nZ 0)])), (q7, .inl (cI, 13, .inl (aZ zF)))] H := hP
  have hD : va_D A [(h, .inr (8, [.ref g, .ref b, .ref f, .ref q7, .int (nZ 0), .int (nZ 0), .int (nZ 0), .int (nZ 0)])), (q7, .inl (cI, 13, .inl (aZ zF)))] := hD
  have hP9 := hP.sub (ws' := [(h, .inr (8, [.ref g, .ref b, .ref f, .ref q7, .int (nZ 0), .int (nZ 0), .int (nZ 0), .int (nZ 0)])), (q7, .inl (cI, 13, .inl (aZ zF)))]) [0, 1] rfl
  have hD9 := hD.sub (ws' := [(h, .inr (8, [.ref g, .ref b, .ref f, .ref q7, .int (nZ 0), .int (nZ 0), .int (nZ 0), .int (nZ 0)])), (q7, .inl (cI, 13, .inl (aZ zF)))]) [0, 1] (by decide) rfl
  refine W.widen (k := 1) (n := 13) (by omega) (by omega) ?_
  exact W.vret hx hb hr (fun t9 ht9 _ => ⟨⟨(q7), rfl, trivial, ⟨by rw [ht9]; exact hP9, hD9⟩⟩, hS.F ht9⟩) hS.2.2 dX8_init_27

set_option maxHeartbeats 4000000 in
set_option maxRecDepth 100000 in
theorem c_X2_init (l : Launch) (D : va_G) (cI cJ : ClassId) (tn : Nat) (sz : Nat) (h : Nat)   : Met l yX2_init wsX2_init ({ frames := 1, cells := 1, slots := 72, locals := 12 } : Room) (va_Pc [.ref h] (WrP D cI cJ tn [(h, .inr (2, [.null, .int (nZ 0)]))] sz)) (va_Qv (fun u9 : Nat => True) (fun u9 t9 => WrQ D (va_A [(h, .inr (2, [.null, .int (nZ 0)]))] sz) [(h, .inr (2, [.ref u9, .int (nZ 0)])), (u9, .inl (cI, 72, .inl (aZ zF)))] t9) (va_A [(h, .inr (2, [.null, .int (nZ 0)]))] sz)) 1 72 (va_A [(h, .inr (2, [.null, .int (nZ 0)]))] sz) := by
  refine Met.ofW (cc := cX2_init) (maxL := 1) (ret := none) (by decide) rfl ?_
  intro p e s m args below meth c s₁ B hml hv
  obtain ⟨rfl, hsz, hE, hP, hD0⟩ := hv
  have hx := B.exec
  have hb := B.bytes
  have hr := B.returns
  have hts := atoms_spec (ws := wsX2_init) B.pre
  have hown : s.vm.findClass RX2 = some m.cls := findClass_of_methodNamed B.named
  have hlocks := B.notSynchronized
  have hin : meth.name = "<init>" := (name_of_methodNamed B.named B.method).1
  subst hsz
  have hD := hD0.self (sz := s.heap.size)
  generalize hAe : va_A [(h, .inr (2, [.null, .int (nZ 0)]))] s.heap.size = A at hD hE ⊢
  have hA : ∀ q : Nat, s.heap.size ≤ q → A q := fun q h => by rw [← hAe]; exact Or.inr h
  have hS : va_S A s.heap s.heap [] := va_S.rf
  have hK := hE.1
  have hN := hE.2.1
  have hl := lv_entry ([.ref h]) (n := 1) (Nat.le_of_ble_eq_true rfl)
  rw [lg_entry_eq]
  generalize (lg_sl ([.ref h]) ++ List.replicate (1 - (lg_sl ([.ref h])).length) Slot.unset).toArray = ls at hl ⊢
  have hl : lv_has ls 1 [(0, .ref h)] := hl
  have iX2 : ∀ w ∈ u_ws RX2 TX2 2, w ∈ wsX2_init := fun _ h => List.mem_cons_of_mem _ (List.mem_append_right _ h)
  refine lv_aload_n hx hb dX2_init_0 rfl (lv_at hl 0 rfl) ?_
  refine W.objInit hx hb hown (hts (.methodLink RX2 3 objectInit) (List.mem_of_getElem? (i := 1) rfl)) (hts (.instanceMethod objectInit) (List.mem_of_getElem? (i := 2) rfl)) (hts (.code objectInit ⟨#[0xb1]⟩ 1 none) (List.mem_of_getElem? (i := 3) rfl)) rfl (by rw [hml]; exact hl.1) rfl dX2_init_1 (Nat.le_of_ble_eq_true rfl) (Nat.le_of_ble_eq_true rfl) ?_
  refine W.eq (g2 := F0 m 4 ls []) rfl ?_
  refine lv_aload_n hx hb dX2_init_4 rfl (lv_at hl 0 rfl) ?_
  refine lv_bipush (v := nZ 72) hx hb dX2_init_5 (by decide) ?_
  refine z_newI (N := 72) hx hb (hts (.arrayClass .int) (List.mem_of_getElem? (i := 4) rfl)) hK hP hD hS hA 0 rfl rfl (Nat.le_of_ble_eq_true rfl) (Nat.le_of_ble_eq_true rfl) (Nat.le_of_ble_eq_true rfl) dX2_init_7 (fun q7 H hP hD hS => ?_)
  have hP : va_P D vwCl [(h, .inr (2, [.null, .int (nZ 0)])), (q7, .inl (cI, 72, .inl (aZ zF)))] H := hP
  have hD : va_D A [(h, .inr (2, [.null, .int (nZ 0)])), (q7, .inl (cI, 72, .inl (aZ zF)))] := hD
  refine va_putF (D := D) (ci := 2) (v := .ref q7) (ty := (.array .int)) (C := RX2) (T := TX2) (N := 2) hx hb hts iX2 tyX2 tyX2_ok nmX2 hown hK hP hD hS 0 rfl rfl 0 (by decide) (hts (.fieldLink RX2 11 "RainTarget$Matches" "parts" "[I") (List.mem_of_getElem? (i := 5) rfl)) (fun _ h9 => h9) rfl hin rfl (by decide +kernel) rfl rfl (Nat.le_of_ble_eq_true rfl) dX2_init_9 (fun H locs hP hD hS => ?_)
  have hP : va_P D vwCl [(h, .inr (2, [.ref q7, .int (nZ 0)])), (q7, .inl (cI, 72, .inl (aZ zF)))] H := hP
  have hD : va_D A [(h, .inr (2, [.ref q7, .int (nZ 0)])), (q7, .inl (cI, 72, .inl (aZ zF)))] := hD
  have hP9 := hP.sub (ws' := [(h, .inr (2, [.ref q7, .int (nZ 0)])), (q7, .inl (cI, 72, .inl (aZ zF)))]) [0, 1] rfl
  have hD9 := hD.sub (ws' := [(h, .inr (2, [.ref q7, .int (nZ 0)])), (q7, .inl (cI, 72, .inl (aZ zF)))]) [0, 1] (by decide) rfl
  refine W.widen (k := 1) (n := 72) (by omega) (by omega) ?_
  exact W.vret hx hb hr (fun t9 ht9 _ => ⟨⟨(q7), rfl, trivial, ⟨by rw [ht9]; exact hP9, hD9⟩⟩, hS.F ht9⟩) hS.2.2 dX2_init_12

set_option maxHeartbeats 4000000 in
set_option maxRecDepth 100000 in
theorem c_X10_init (l : Launch) (D : va_G) (cI cJ : ClassId) (tn : Nat) (sz : Nat) (h : Nat)   : Met l yX10_init wsX10_init ({ frames := 1, cells := 14, slots := 143683, locals := 12 } : Room) (va_Pc [.ref h] (WrP D cI cJ tn [(h, .inr (10, [.int (nZ 0), .int (nZ 0), .null, .null, .int (nZ 0), .int (nZ 0), .int (nZ 0), .int (nZ 0), .int (nZ 0), .int (nZ 0), .null, .int (nZ 0), .int (nZ 0), .long (lZ 0), .int (nZ 0), .int (nZ 0), .int (nZ 0), .int (nZ 0), .null, .int (nZ 0), .null, .null, .int (nZ 0), .null, .null, .null, .int (nZ 0), .null, .null, .null, .int (nZ 0), .null, .null, .int (nZ 0), .int (nZ 0), .int (nZ 0), .int (nZ 0), .int (nZ 0), .int (nZ 0), .int (nZ 0)]))] sz)) (va_Qv (fun u9 : Nat × Nat × Nat × Nat × Nat × Nat × Nat × Nat × Nat × Nat × Nat × Nat × Nat × Nat => True) (fun u9 t9 => WrQ D (va_A [(h, .inr (10, [.int (nZ 0), .int (nZ 0), .null, .null, .int (nZ 0), .int (nZ 0), .int (nZ 0), .int (nZ 0), .int (nZ 0), .int (nZ 0), .null, .int (nZ 0), .int (nZ 0), .long (lZ 0), .int (nZ 0), .int (nZ 0), .int (nZ 0), .int (nZ 0), .null, .int (nZ 0), .null, .null, .int (nZ 0), .null, .null, .null, .int (nZ 0), .null, .null, .null, .int (nZ 0), .null, .null, .int (nZ 0), .int (nZ 0), .int (nZ 0), .int (nZ 0), .int (nZ 0), .int (nZ 0), .int (nZ 0)]))] sz) [(h, .inr (10, [.int (nZ 6), .int (nZ 3), .ref u9.1, .ref u9.2.1, .int (nZ 100), .int (nZ 100), .int (nZ 0), .int (nZ 0), .int (nZ 5), .int (nZ 0), .ref u9.2.2.1, .int (nZ 0), .int (nZ 0), .long (lZ 0), .int (nZ 0), .int (nZ 0), .int (nZ 0), .int (nZ 0), .ref u9.2.2.2.1, .int (nZ 0), .ref u9.2.2.2.2.1, .ref u9.2.2.2.2.2.1, .int (nZ 0), .ref u9.2.2.2.2.2.2.1, .ref u9.2.2.2.2.2.2.2.1, .ref u9.2.2.2.2.2.2.2.2.1, .int (nZ 0), .ref u9.2.2.2.2.2.2.2.2.2.1, .ref u9.2.2.2.2.2.2.2.2.2.2.1, .ref u9.2.2.2.2.2.2.2.2.2.2.2.1, .int (nZ 0), .ref u9.2.2.2.2.2.2.2.2.2.2.2.2.1, .ref u9.2.2.2.2.2.2.2.2.2.2.2.2.2, .int (nZ 0), .int (nZ 0), .int (nZ 0), .int (nZ 0), .int (nZ 0), .int (nZ 0), .int (nZ 0)])), (u9.1, .inl (cI, 4, .inl (aZ cs0))), (u9.2.1, .inl (cI, 48, .inl (aZ mp0))), (u9.2.2.1, .inl (cI, 200, .inl (aZ zF))), (u9.2.2.2.1, .inl (cI, 120, .inl (aZ zF))), (u9.2.2.2.2.1, .inl (cI, 12, .inl (aZ zF))), (u9.2.2.2.2.2.1, .inl (cI, 12, .inl (aZ zF))), (u9.2.2.2.2.2.2.1, .inl (cI, 24, .inl (aZ zF))), (u9.2.2.2.2.2.2.2.1, .inl (cI, 24, .inl (aZ zF))), (u9.2.2.2.2.2.2.2.2.1, .inl (cI, 24, .inl (aZ zF))), (u9.2.2.2.2.2.2.2.2.2.1, .inl (cI, 24, .inl (aZ zF))), (u9.2.2.2.2.2.2.2.2.2.2.1, .inl (cI, 24, .inl (aZ zF))), (u9.2.2.2.2.2.2.2.2.2.2.2.1, .inl (cI, 24, .inl (aZ zF))), (u9.2.2.2.2.2.2.2.2.2.2.2.2.1, .inl (cJ, 143, .inr (.inl (bZ zF)))), (u9.2.2.2.2.2.2.2.2.2.2.2.2.2, .inl (cJ, 143000, .inr (.inl (bZ zF))))] t9) (va_A [(h, .inr (10, [.int (nZ 0), .int (nZ 0), .null, .null, .int (nZ 0), .int (nZ 0), .int (nZ 0), .int (nZ 0), .int (nZ 0), .int (nZ 0), .null, .int (nZ 0), .int (nZ 0), .long (lZ 0), .int (nZ 0), .int (nZ 0), .int (nZ 0), .int (nZ 0), .null, .int (nZ 0), .null, .null, .int (nZ 0), .null, .null, .null, .int (nZ 0), .null, .null, .null, .int (nZ 0), .null, .null, .int (nZ 0), .int (nZ 0), .int (nZ 0), .int (nZ 0), .int (nZ 0), .int (nZ 0), .int (nZ 0)]))] sz)) 14 143683 (va_A [(h, .inr (10, [.int (nZ 0), .int (nZ 0), .null, .null, .int (nZ 0), .int (nZ 0), .int (nZ 0), .int (nZ 0), .int (nZ 0), .int (nZ 0), .null, .int (nZ 0), .int (nZ 0), .long (lZ 0), .int (nZ 0), .int (nZ 0), .int (nZ 0), .int (nZ 0), .null, .int (nZ 0), .null, .null, .int (nZ 0), .null, .null, .null, .int (nZ 0), .null, .null, .null, .int (nZ 0), .null, .null, .int (nZ 0), .int (nZ 0), .int (nZ 0), .int (nZ 0), .int (nZ 0), .int (nZ 0), .int (nZ 0)]))] sz) := by
  refine Met.ofW (cc := cX10_init) (maxL := 1) (ret := none) (by decide) rfl ?_
  intro p e s m args below meth c s₁ B hml hv
  obtain ⟨rfl, hsz, hE, hP, hD0⟩ := hv
  have hx := B.exec
  have hb := B.bytes
  have hr := B.returns
  have hts := atoms_spec (ws := wsX10_init) B.pre
  have hown : s.vm.findClass RX10 = some m.cls := findClass_of_methodNamed B.named
  have hlocks := B.notSynchronized
  have hin : meth.name = "<init>" := (name_of_methodNamed B.named B.method).1
  subst hsz
  have hD := hD0.self (sz := s.heap.size)
  generalize hAe : va_A [(h, .inr (10, [.int (nZ 0), .int (nZ 0), .null, .null, .int (nZ 0), .int (nZ 0), .int (nZ 0), .int (nZ 0), .int (nZ 0), .int (nZ 0), .null, .int (nZ 0), .int (nZ 0), .long (lZ 0), .int (nZ 0), .int (nZ 0), .int (nZ 0), .int (nZ 0), .null, .int (nZ 0), .null, .null, .int (nZ 0), .null, .null, .null, .int (nZ 0), .null, .null, .null, .int (nZ 0), .null, .null, .int (nZ 0), .int (nZ 0), .int (nZ 0), .int (nZ 0), .int (nZ 0), .int (nZ 0), .int (nZ 0)]))] s.heap.size = A at hD hE ⊢
  have hA : ∀ q : Nat, s.heap.size ≤ q → A q := fun q h => by rw [← hAe]; exact Or.inr h
  have hS : va_S A s.heap s.heap [] := va_S.rf
  have hK := hE.1
  have hN := hE.2.1
  have hl := lv_entry ([.ref h]) (n := 1) (Nat.le_of_ble_eq_true rfl)
  rw [lg_entry_eq]
  generalize (lg_sl ([.ref h]) ++ List.replicate (1 - (lg_sl ([.ref h])).length) Slot.unset).toArray = ls at hl ⊢
  have hl : lv_has ls 1 [(0, .ref h)] := hl
  have iX10 : ∀ w ∈ u_ws RX10 TX10 40, w ∈ wsX10_init := fun _ h => List.mem_cons_of_mem _ (List.mem_append_right _ h)
  refine lv_aload_n hx hb dX10_init_0 rfl (lv_at hl 0 rfl) ?_
  refine W.objInit hx hb hown (hts (.methodLink RX10 1 objectInit) (List.mem_of_getElem? (i := 1) rfl)) (hts (.instanceMethod objectInit) (List.mem_of_getElem? (i := 2) rfl)) (hts (.code objectInit ⟨#[0xb1]⟩ 1 none) (List.mem_of_getElem? (i := 3) rfl)) rfl (by rw [hml]; exact hl.1) rfl dX10_init_1 (Nat.le_of_ble_eq_true rfl) (Nat.le_of_ble_eq_true rfl) ?_
  refine W.eq (g2 := F0 m 4 ls []) rfl ?_
  refine lv_aload_n hx hb dX10_init_4 rfl (lv_at hl 0 rfl) ?_
  refine lv_bipush (v := nZ 6) hx hb dX10_init_5 (by decide) ?_
  refine va_put (D := D) (ci := 10) (v := .int (nZ 6)) (ty := .int) (C := RX10) (T := TX10) (N := 40) hx hb hts iX10 tyX10 tyX10_ok nmX10 hown hK hP hD hS 0 rfl rfl 0 (by decide) (hts (.fieldLink RX10 7 "RainTargetModel" "overs" "I") (List.mem_of_getElem? (i := 4) rfl)) (fun _ h9 => h9) rfl (by decide +kernel) rfl rfl (Nat.le_of_ble_eq_true rfl) dX10_init_7 (fun H locs hP hD hS => ?_)
  have hP : va_P D vwCl [(h, .inr (10, [.int (nZ 6), .int (nZ 0), .null, .null, .int (nZ 0), .int (nZ 0), .int (nZ 0), .int (nZ 0), .int (nZ 0), .int (nZ 0), .null, .int (nZ 0), .int (nZ 0), .long (lZ 0), .int (nZ 0), .int (nZ 0), .int (nZ 0), .int (nZ 0), .null, .int (nZ 0), .null, .null, .int (nZ 0), .null, .null, .null, .int (nZ 0), .null, .null, .null, .int (nZ 0), .null, .null, .int (nZ 0), .int (nZ 0), .int (nZ 0), .int (nZ 0), .int (nZ 0), .int (nZ 0), .int (nZ 0)]))] H := hP
  have hD : va_D A [(h, .inr (10, [.int (nZ 6), .int (nZ 0), .null, .null, .int (nZ 0), .int (nZ 0), .int (nZ 0), .int (nZ 0), .int (nZ 0), .int (nZ 0), .null, .int (nZ 0), .int (nZ 0), .long (lZ 0), .int (nZ 0), .int (nZ 0), .int (nZ 0), .int (nZ 0), .null, .int (nZ 0), .null, .null, .int (nZ 0), .null, .null, .null, .int (nZ 0), .null, .null, .null, .int (nZ 0), .null, .null, .int (nZ 0), .int (nZ 0), .int (nZ 0), .int (nZ 0), .int (nZ 0), .int (nZ 0), .int (nZ 0)]))] := hD
  refine lv_aload_n hx hb dX10_init_10 rfl (lv_at hl 0 rfl) ?_
  refine lv_iconst (v := nZ 3) hx hb dX10_init_11 rfl ?_
  refine va_put (D := D) (ci := 10) (v := .int (nZ 3)) (ty := .int) (C := RX10) (T := TX10) (N := 40) hx hb hts iX10 tyX10 tyX10_ok nmX10 hown hK hP hD hS 0 rfl rfl 1 (by decide) (hts (.fieldLink RX10 13 "RainTargetModel" "men" "I") (List.mem_of_getElem? (i := 5) rfl)) (fun _ h9 => h9) rfl (by decide +kernel) rfl rfl (Nat.le_of_ble_eq_true rfl) dX10_init_12 (fun H locs hP hD hS => ?_)
  have hP : va_P D vwCl [(h, .inr (10, [.int (nZ 6), .int (nZ 3), .null, .null, .int (nZ 0), .int (nZ 0), .int (nZ 0), .int (nZ 0), .int (nZ 0), .int (nZ 0), .null, .int (nZ 0), .int (nZ 0), .long (lZ 0), .int (nZ 0), .int (nZ 0), .int (nZ 0), .int (nZ 0), .null, .int (nZ 0), .null, .null, .int (nZ 0), .null, .null, .null, .int (nZ 0), .null, .null, .null, .int (nZ 0), .null, .null, .int (nZ 0), .int (nZ 0), .int (nZ 0), .int (nZ 0), .int (nZ 0), .int (nZ 0), .int (nZ 0)]))] H := hP
  have hD : va_D A [(h, .inr (10, [.int (nZ 6), .int (nZ 3), .null, .null, .int (nZ 0), .int (nZ 0), .int (nZ 0), .int (nZ 0), .int (nZ 0), .int (nZ 0), .null, .int (nZ 0), .int (nZ 0), .long (lZ 0), .int (nZ 0), .int (nZ 0), .int (nZ 0), .int (nZ 0), .null, .int (nZ 0), .null, .null, .int (nZ 0), .null, .null, .null, .int (nZ 0), .null, .null, .null, .int (nZ 0), .null, .null, .int (nZ 0), .int (nZ 0), .int (nZ 0), .int (nZ 0), .int (nZ 0), .int (nZ 0), .int (nZ 0)]))] := hD
  refine lv_aload_n hx hb dX10_init_15 rfl (lv_at hl 0 rfl) ?_
  refine lv_iconst (v := nZ 4) hx hb dX10_init_16 rfl ?_
  refine z_newI (N := 4) hx hb (hts (.arrayClass .int) (List.mem_of_getElem? (i := 6) rfl)) hK hP hD hS hA 0 rfl rfl (Nat.le_of_ble_eq_true rfl) (Nat.le_of_ble_eq_true rfl) (Nat.le_of_ble_eq_true rfl) dX10_init_17 (fun q17 H hP hD hS => ?_)
  have hP : va_P D vwCl [(h, .inr (10, [.int (nZ 6), .int (nZ 3), .null, .null, .int (nZ 0), .int (nZ 0), .int (nZ 0), .int (nZ 0), .int (nZ 0), .int (nZ 0), .null, .int (nZ 0), .int (nZ 0), .long (lZ 0), .int (nZ 0), .int (nZ 0), .int (nZ 0), .int (nZ 0), .null, .int (nZ 0), .null, .null, .int (nZ 0), .null, .null, .null, .int (nZ 0), .null, .null, .null, .int (nZ 0), .null, .null, .int (nZ 0), .int (nZ 0), .int (nZ 0), .int (nZ 0), .int (nZ 0), .int (nZ 0), .int (nZ 0)])), (q17, .inl (cI, 4, .inl (aZ zF)))] H := hP
  have hD : va_D A [(h, .inr (10, [.int (nZ 6), .int (nZ 3), .null, .null, .int (nZ 0), .int (nZ 0), .int (nZ 0), .int (nZ 0), .int (nZ 0), .int (nZ 0), .null, .int (nZ 0), .int (nZ 0), .long (lZ 0), .int (nZ 0), .int (nZ 0), .int (nZ 0), .int (nZ 0), .null, .int (nZ 0), .null, .null, .int (nZ 0), .null, .null, .null, .int (nZ 0), .null, .null, .null, .int (nZ 0), .null, .null, .int (nZ 0), .int (nZ 0), .int (nZ 0), .int (nZ 0), .int (nZ 0), .int (nZ 0), .int (nZ 0)])), (q17, .inl (cI, 4, .inl (aZ zF)))] := hD
  refine va_putF (D := D) (ci := 10) (v := .ref q17) (ty := (.array .int)) (C := RX10) (T := TX10) (N := 40) hx hb hts iX10 tyX10 tyX10_ok nmX10 hown hK hP hD hS 0 rfl rfl 2 (by decide) (hts (.fieldLink RX10 16 "RainTargetModel" "cases" "[I") (List.mem_of_getElem? (i := 7) rfl)) (fun _ h9 => h9) rfl hin rfl (by decide +kernel) rfl rfl (Nat.le_of_ble_eq_true rfl) dX10_init_19 (fun H locs hP hD hS => ?_)
  have hP : va_P D vwCl [(h, .inr (10, [.int (nZ 6), .int (nZ 3), .ref q17, .null, .int (nZ 0), .int (nZ 0), .int (nZ 0), .int (nZ 0), .int (nZ 0), .int (nZ 0), .null, .int (nZ 0), .int (nZ 0), .long (lZ 0), .int (nZ 0), .int (nZ 0), .int (nZ 0), .int (nZ 0), .null, .int (nZ 0), .null, .null, .int (nZ 0), .null, .null, .null, .int (nZ 0), .null, .null, .null, .int (nZ 0), .null, .null, .int (nZ 0), .int (nZ 0), .int (nZ 0), .int (nZ 0), .int (nZ 0), .int (nZ 0), .int (nZ 0)])), (q17, .inl (cI, 4, .inl (aZ zF)))] H := hP
  have hD : va_D A [(h, .inr (10, [.int (nZ 6), .int (nZ 3), .ref q17, .null, .int (nZ 0), .int (nZ 0), .int (nZ 0), .int (nZ 0), .int (nZ 0), .int (nZ 0), .null, .int (nZ 0), .int (nZ 0), .long (lZ 0), .int (nZ 0), .int (nZ 0), .int (nZ 0), .int (nZ 0), .null, .int (nZ 0), .null, .null, .int (nZ 0), .null, .null, .null, .int (nZ 0), .null, .null, .null, .int (nZ 0), .null, .null, .int (nZ 0), .int (nZ 0), .int (nZ 0), .int (nZ 0), .int (nZ 0), .int (nZ 0), .int (nZ 0)])), (q17, .inl (cI, 4, .inl (aZ zF)))] := hD
  refine lv_aload_n hx hb dX10_init_22 rfl (lv_at hl 0 rfl) ?_
  refine lv_bipush (v := nZ 48) hx hb dX10_init_23 (by decide) ?_
  refine z_newI (N := 48) hx hb (hts (.arrayClass .int) (List.mem_of_getElem? (i := 6) rfl)) hK hP hD hS hA 0 rfl rfl (Nat.le_of_ble_eq_true rfl) (Nat.le_of_ble_eq_true rfl) (Nat.le_of_ble_eq_true rfl) dX10_init_25 (fun q25 H hP hD hS => ?_)
  have hP : va_P D vwCl [(h, .inr (10, [.int (nZ 6), .int (nZ 3), .ref q17, .null, .int (nZ 0), .int (nZ 0), .int (nZ 0), .int (nZ 0), .int (nZ 0), .int (nZ 0), .null, .int (nZ 0), .int (nZ 0), .long (lZ 0), .int (nZ 0), .int (nZ 0), .int (nZ 0), .int (nZ 0), .null, .int (nZ 0), .null, .null, .int (nZ 0), .null, .null, .null, .int (nZ 0), .null, .null, .null, .int (nZ 0), .null, .null, .int (nZ 0), .int (nZ 0), .int (nZ 0), .int (nZ 0), .int (nZ 0), .int (nZ 0), .int (nZ 0)])), (q17, .inl (cI, 4, .inl (aZ zF))), (q25, .inl (cI, 48, .inl (aZ zF)))] H := hP
  have hD : va_D A [(h, .inr (10, [.int (nZ 6), .int (nZ 3), .ref q17, .null, .int (nZ 0), .int (nZ 0), .int (nZ 0), .int (nZ 0), .int (nZ 0), .int (nZ 0), .null, .int (nZ 0), .int (nZ 0), .long (lZ 0), .int (nZ 0), .int (nZ 0), .int (nZ 0), .int (nZ 0), .null, .int (nZ 0), .null, .null, .int (nZ 0), .null, .null, .null, .int (nZ 0), .null, .null, .null, .int (nZ 0), .null, .null, .int (nZ 0), .int (nZ 0), .int (nZ 0), .int (nZ 0), .int (nZ 0), .int (nZ 0), .int (nZ 0)])), (q17, .inl (cI, 4, .inl (aZ zF))), (q25, .inl (cI, 48, .inl (aZ zF)))] := hD
  refine va_putF (D := D) (ci := 10) (v := .ref q25) (ty := (.array .int)) (C := RX10) (T := TX10) (N := 40) hx hb hts iX10 tyX10 tyX10_ok nmX10 hown hK hP hD hS 0 rfl rfl 3 (by decide) (hts (.fieldLink RX10 20 "RainTargetModel" "mood" "[I") (List.mem_of_getElem? (i := 8) rfl)) (fun _ h9 => h9) rfl hin rfl (by decide +kernel) rfl rfl (Nat.le_of_ble_eq_true rfl) dX10_init_27 (fun H locs hP hD hS => ?_)
  have hP : va_P D vwCl [(h, .inr (10, [.int (nZ 6), .int (nZ 3), .ref q17, .ref q25, .int (nZ 0), .int (nZ 0), .int (nZ 0), .int (nZ 0), .int (nZ 0), .int (nZ 0), .null, .int (nZ 0), .int (nZ 0), .long (lZ 0), .int (nZ 0), .int (nZ 0), .int (nZ 0), .int (nZ 0), .null, .int (nZ 0), .null, .null, .int (nZ 0), .null, .null, .null, .int (nZ 0), .null, .null, .null, .int (nZ 0), .null, .null, .int (nZ 0), .int (nZ 0), .int (nZ 0), .int (nZ 0), .int (nZ 0), .int (nZ 0), .int (nZ 0)])), (q17, .inl (cI, 4, .inl (aZ zF))), (q25, .inl (cI, 48, .inl (aZ zF)))] H := hP
  have hD : va_D A [(h, .inr (10, [.int (nZ 6), .int (nZ 3), .ref q17, .ref q25, .int (nZ 0), .int (nZ 0), .int (nZ 0), .int (nZ 0), .int (nZ 0), .int (nZ 0), .null, .int (nZ 0), .int (nZ 0), .long (lZ 0), .int (nZ 0), .int (nZ 0), .int (nZ 0), .int (nZ 0), .null, .int (nZ 0), .null, .null, .int (nZ 0), .null, .null, .null, .int (nZ 0), .null, .null, .null, .int (nZ 0), .null, .null, .int (nZ 0), .int (nZ 0), .int (nZ 0), .int (nZ 0), .int (nZ 0), .int (nZ 0), .int (nZ 0)])), (q17, .inl (cI, 4, .inl (aZ zF))), (q25, .inl (cI, 48, .inl (aZ zF)))] := hD
  refine lv_aload_n hx hb dX10_init_30 rfl (lv_at hl 0 rfl) ?_
  refine lv_bipush (v := nZ 100) hx hb dX10_init_31 (by decide) ?_
  refine va_put (D := D) (ci := 10) (v := .int (nZ 100)) (ty := .int) (C := RX10) (T := TX10) (N := 40) hx hb hts iX10 tyX10 tyX10_ok nmX10 hown hK hP hD hS 0 rfl rfl 4 (by decide) (hts (.fieldLink RX10 23 "RainTargetModel" "par" "I") (List.mem_of_getElem? (i := 9) rfl)) (fun _ h9 => h9) rfl (by decide +kernel) rfl rfl (Nat.le_of_ble_eq_true rfl) dX10_init_33 (fun H locs hP hD hS => ?_)
  have hP : va_P D vwCl [(h, .inr (10, [.int (nZ 6), .int (nZ 3), .ref q17, .ref q25, .int (nZ 100), .int (nZ 0), .int (nZ 0), .int (nZ 0), .int (nZ 0), .int (nZ 0), .null, .int (nZ 0), .int (nZ 0), .long (lZ 0), .int (nZ 0), .int (nZ 0), .int (nZ 0), .int (nZ 0), .null, .int (nZ 0), .null, .null, .int (nZ 0), .null, .null, .null, .int (nZ 0), .null, .null, .null, .int (nZ 0), .null, .null, .int (nZ 0), .int (nZ 0), .int (nZ 0), .int (nZ 0), .int (nZ 0), .int (nZ 0), .int (nZ 0)])), (q17, .inl (cI, 4, .inl (aZ zF))), (q25, .inl (cI, 48, .inl (aZ zF)))] H := hP
  have hD : va_D A [(h, .inr (10, [.int (nZ 6), .int (nZ 3), .ref q17, .ref q25, .int (nZ 100), .int (nZ 0), .int (nZ 0), .int (nZ 0), .int (nZ 0), .int (nZ 0), .null, .int (nZ 0), .int (nZ 0), .long (lZ 0), .int (nZ 0), .int (nZ 0), .int (nZ 0), .int (nZ 0), .null, .int (nZ 0), .null, .null, .int (nZ 0), .null, .null, .null, .int (nZ 0), .null, .null, .null, .int (nZ 0), .null, .null, .int (nZ 0), .int (nZ 0), .int (nZ 0), .int (nZ 0), .int (nZ 0), .int (nZ 0), .int (nZ 0)])), (q17, .inl (cI, 4, .inl (aZ zF))), (q25, .inl (cI, 48, .inl (aZ zF)))] := hD
  refine lv_aload_n hx hb dX10_init_36 rfl (lv_at hl 0 rfl) ?_
  refine lv_bipush (v := nZ 100) hx hb dX10_init_37 (by decide) ?_
  refine va_put (D := D) (ci := 10) (v := .int (nZ 100)) (ty := .int) (C := RX10) (T := TX10) (N := 40) hx hb hts iX10 tyX10 tyX10_ok nmX10 hown hK hP hD hS 0 rfl rfl 5 (by decide) (hts (.fieldLink RX10 26 "RainTargetModel" "bend" "I") (List.mem_of_getElem? (i := 10) rfl)) (fun _ h9 => h9) rfl (by decide +kernel) rfl rfl (Nat.le_of_ble_eq_true rfl) dX10_init_39 (fun H locs hP hD hS => ?_)
  have hP : va_P D vwCl [(h, .inr (10, [.int (nZ 6), .int (nZ 3), .ref q17, .ref q25, .int (nZ 100), .int (nZ 100), .int (nZ 0), .int (nZ 0), .int (nZ 0), .int (nZ 0), .null, .int (nZ 0), .int (nZ 0), .long (lZ 0), .int (nZ 0), .int (nZ 0), .int (nZ 0), .int (nZ 0), .null, .int (nZ 0), .null, .null, .int (nZ 0), .null, .null, .null, .int (nZ 0), .null, .null, .null, .int (nZ 0), .null, .null, .int (nZ 0), .int (nZ 0), .int (nZ 0), .int (nZ 0), .int (nZ 0), .int (nZ 0), .int (nZ 0)])), (q17, .inl (cI, 4, .inl (aZ zF))), (q25, .inl (cI, 48, .inl (aZ zF)))] H := hP
  have hD : va_D A [(h, .inr (10, [.int (nZ 6), .int (nZ 3), .ref q17, .ref q25, .int (nZ 100), .int (nZ 100), .int (nZ 0), .int (nZ 0), .int (nZ 0), .int (nZ 0), .null, .int (nZ 0), .int (nZ 0), .long (lZ 0), .int (nZ 0), .int (nZ 0), .int (nZ 0), .int (nZ 0), .null, .int (nZ 0), .null, .null, .int (nZ 0), .null, .null, .null, .int (nZ 0), .null, .null, .null, .int (nZ 0), .null, .null, .int (nZ 0), .int (nZ 0), .int (nZ 0), .int (nZ 0), .int (nZ 0), .int (nZ 0), .int (nZ 0)])), (q17, .inl (cI, 4, .inl (aZ zF))), (q25, .inl (cI, 48, .inl (aZ zF)))] := hD
  refine lv_aload_n hx hb dX10_init_42 rfl (lv_at hl 0 rfl) ?_
  refine lv_iconst (v := nZ 5) hx hb dX10_init_43 rfl ?_
  refine va_put (D := D) (ci := 10) (v := .int (nZ 5)) (ty := .int) (C := RX10) (T := TX10) (N := 40) hx hb hts iX10 tyX10 tyX10_ok nmX10 hown hK hP hD hS 0 rfl rfl 8 (by decide) (hts (.fieldLink RX10 29 "RainTargetModel" "line" "I") (List.mem_of_getElem? (i := 11) rfl)) (fun _ h9 => h9) rfl (by decide +kernel) rfl rfl (Nat.le_of_ble_eq_true rfl) dX10_init_44 (fun H locs hP hD hS => ?_)
  have hP : va_P D vwCl [(h, .inr (10, [.int (nZ 6), .int (nZ 3), .ref q17, .ref q25, .int (nZ 100), .int (nZ 100), .int (nZ 0), .int (nZ 0), .int (nZ 5), .int (nZ 0), .null, .int (nZ 0), .int (nZ 0), .long (lZ 0), .int (nZ 0), .int (nZ 0), .int (nZ 0), .int (nZ 0), .null, .int (nZ 0), .null, .null, .int (nZ 0), .null, .null, .null, .int (nZ 0), .null, .null, .null, .int (nZ 0), .null, .null, .int (nZ 0), .int (nZ 0), .int (nZ 0), .int (nZ 0), .int (nZ 0), .int (nZ 0), .int (nZ 0)])), (q17, .inl (cI, 4, .inl (aZ zF))), (q25, .inl (cI, 48, .inl (aZ zF)))] H := hP
  have hD : va_D A [(h, .inr (10, [.int (nZ 6), .int (nZ 3), .ref q17, .ref q25, .int (nZ 100), .int (nZ 100), .int (nZ 0), .int (nZ 0), .int (nZ 5), .int (nZ 0), .null, .int (nZ 0), .int (nZ 0), .long (lZ 0), .int (nZ 0), .int (nZ 0), .int (nZ 0), .int (nZ 0), .null, .int (nZ 0), .null, .null, .int (nZ 0), .null, .null, .null, .int (nZ 0), .null, .null, .null, .int (nZ 0), .null, .null, .int (nZ 0), .int (nZ 0), .int (nZ 0), .int (nZ 0), .int (nZ 0), .int (nZ 0), .int (nZ 0)])), (q17, .inl (cI, 4, .inl (aZ zF))), (q25, .inl (cI, 48, .inl (aZ zF)))] := hD
  refine lv_aload_n hx hb dX10_init_47 rfl (lv_at hl 0 rfl) ?_
  refine lv_sipush (v := nZ 200) hx hb dX10_init_48 (by decide) ?_
  refine z_newI (N := 200) hx hb (hts (.arrayClass .int) (List.mem_of_getElem? (i := 6) rfl)) hK hP hD hS hA 0 rfl rfl (Nat.le_of_ble_eq_true rfl) (Nat.le_of_ble_eq_true rfl) (Nat.le_of_ble_eq_true rfl) dX10_init_51 (fun q51 H hP hD hS => ?_)
  have hP : va_P D vwCl [(h, .inr (10, [.int (nZ 6), .int (nZ 3), .ref q17, .ref q25, .int (nZ 100), .int (nZ 100), .int (nZ 0), .int (nZ 0), .int (nZ 5), .int (nZ 0), .null, .int (nZ 0), .int (nZ 0), .long (lZ 0), .int (nZ 0), .int (nZ 0), .int (nZ 0), .int (nZ 0), .null, .int (nZ 0), .null, .null, .int (nZ 0), .null, .null, .null, .int (nZ 0), .null, .null, .null, .int (nZ 0), .null, .null, .int (nZ 0), .int (nZ 0), .int (nZ 0), .int (nZ 0), .int (nZ 0), .int (nZ 0), .int (nZ 0)])), (q17, .inl (cI, 4, .inl (aZ zF))), (q25, .inl (cI, 48, .inl (aZ zF))), (q51, .inl (cI, 200, .inl (aZ zF)))] H := hP
  have hD : va_D A [(h, .inr (10, [.int (nZ 6), .int (nZ 3), .ref q17, .ref q25, .int (nZ 100), .int (nZ 100), .int (nZ 0), .int (nZ 0), .int (nZ 5), .int (nZ 0), .null, .int (nZ 0), .int (nZ 0), .long (lZ 0), .int (nZ 0), .int (nZ 0), .int (nZ 0), .int (nZ 0), .null, .int (nZ 0), .null, .null, .int (nZ 0), .null, .null, .null, .int (nZ 0), .null, .null, .null, .int (nZ 0), .null, .null, .int (nZ 0), .int (nZ 0), .int (nZ 0), .int (nZ 0), .int (nZ 0), .int (nZ 0), .int (nZ 0)])), (q17, .inl (cI, 4, .inl (aZ zF))), (q25, .inl (cI, 48, .inl (aZ zF))), (q51, .inl (cI, 200, .inl (aZ zF)))] := hD
  refine va_putF (D := D) (ci := 10) (v := .ref q51) (ty := (.array .int)) (C := RX10) (T := TX10) (N := 40) hx hb hts iX10 tyX10 tyX10_ok nmX10 hown hK hP hD hS 0 rfl rfl 10 (by decide) (hts (.fieldLink RX10 32 "RainTargetModel" "text" "[I") (List.mem_of_getElem? (i := 12) rfl)) (fun _ h9 => h9) rfl hin rfl (by decide +kernel) rfl rfl (Nat.le_of_ble_eq_true rfl) dX10_init_53 (fun H locs hP hD hS => ?_)
  have hP : va_P D vwCl [(h, .inr (10, [.int (nZ 6), .int (nZ 3), .ref q17, .ref q25, .int (nZ 100), .int (nZ 100), .int (nZ 0), .int (nZ 0), .int (nZ 5), .int (nZ 0), .ref q51, .int (nZ 0), .int (nZ 0), .long (lZ 0), .int (nZ 0), .int (nZ 0), .int (nZ 0), .int (nZ 0), .null, .int (nZ 0), .null, .null, .int (nZ 0), .null, .null, .null, .int (nZ 0), .null, .null, .null, .int (nZ 0), .null, .null, .int (nZ 0), .int (nZ 0), .int (nZ 0), .int (nZ 0), .int (nZ 0), .int (nZ 0), .int (nZ 0)])), (q17, .inl (cI, 4, .inl (aZ zF))), (q25, .inl (cI, 48, .inl (aZ zF))), (q51, .inl (cI, 200, .inl (aZ zF)))] H := hP
  have hD : va_D A [(h, .inr (10, [.int (nZ 6), .int (nZ 3), .ref q17, .ref q25, .int (nZ 100), .int (nZ 100), .int (nZ 0), .int (nZ 0), .int (nZ 5), .int (nZ 0), .ref q51, .int (nZ 0), .int (nZ 0), .long (lZ 0), .int (nZ 0), .int (nZ 0), .int (nZ 0), .int (nZ 0), .null, .int (nZ 0), .null, .null, .int (nZ 0), .null, .null, .null, .int (nZ 0), .null, .null, .null, .int (nZ 0), .null, .null, .int (nZ 0), .int (nZ 0), .int (nZ 0), .int (nZ 0), .int (nZ 0), .int (nZ 0), .int (nZ 0)])), (q17, .inl (cI, 4, .inl (aZ zF))), (q25, .inl (cI, 48, .inl (aZ zF))), (q51, .inl (cI, 200, .inl (aZ zF)))] := hD
  refine lv_aload_n hx hb dX10_init_56 rfl (lv_at hl 0 rfl) ?_
  refine lv_bipush (v := nZ 120) hx hb dX10_init_57 (by decide) ?_
  refine z_newI (N := 120) hx hb (hts (.arrayClass .int) (List.mem_of_getElem? (i := 6) rfl)) hK hP hD hS hA 0 rfl rfl (Nat.le_of_ble_eq_true rfl) (Nat.le_of_ble_eq_true rfl) (Nat.le_of_ble_eq_true rfl) dX10_init_59 (fun q59 H hP hD hS => ?_)
  have hP : va_P D vwCl [(h, .inr (10, [.int (nZ 6), .int (nZ 3), .ref q17, .ref q25, .int (nZ 100), .int (nZ 100), .int (nZ 0), .int (nZ 0), .int (nZ 5), .int (nZ 0), .ref q51, .int (nZ 0), .int (nZ 0), .long (lZ 0), .int (nZ 0), .int (nZ 0), .int (nZ 0), .int (nZ 0), .null, .int (nZ 0), .null, .null, .int (nZ 0), .null, .null, .null, .int (nZ 0), .null, .null, .null, .int (nZ 0), .null, .null, .int (nZ 0), .int (nZ 0), .int (nZ 0), .int (nZ 0), .int (nZ 0), .int (nZ 0), .int (nZ 0)])), (q17, .inl (cI, 4, .inl (aZ zF))), (q25, .inl (cI, 48, .inl (aZ zF))), (q51, .inl (cI, 200, .inl (aZ zF))), (q59, .inl (cI, 120, .inl (aZ zF)))] H := hP
  have hD : va_D A [(h, .inr (10, [.int (nZ 6), .int (nZ 3), .ref q17, .ref q25, .int (nZ 100), .int (nZ 100), .int (nZ 0), .int (nZ 0), .int (nZ 5), .int (nZ 0), .ref q51, .int (nZ 0), .int (nZ 0), .long (lZ 0), .int (nZ 0), .int (nZ 0), .int (nZ 0), .int (nZ 0), .null, .int (nZ 0), .null, .null, .int (nZ 0), .null, .null, .null, .int (nZ 0), .null, .null, .null, .int (nZ 0), .null, .null, .int (nZ 0), .int (nZ 0), .int (nZ 0), .int (nZ 0), .int (nZ 0), .int (nZ 0), .int (nZ 0)])), (q17, .inl (cI, 4, .inl (aZ zF))), (q25, .inl (cI, 48, .inl (aZ zF))), (q51, .inl (cI, 200, .inl (aZ zF))), (q59, .inl (cI, 120, .inl (aZ zF)))] := hD
  refine va_putF (D := D) (ci := 10) (v := .ref q59) (ty := (.array .int)) (C := RX10) (T := TX10) (N := 40) hx hb hts iX10 tyX10 tyX10_ok nmX10 hown hK hP hD hS 0 rfl rfl 18 (by decide) (hts (.fieldLink RX10 35 "RainTargetModel" "read" "[I") (List.mem_of_getElem? (i := 13) rfl)) (fun _ h9 => h9) rfl hin rfl (by decide +kernel) rfl rfl (Nat.le_of_ble_eq_true rfl) dX10_init_61 (fun H locs hP hD hS => ?_)
  have hP : va_P D vwCl [(h, .inr (10, [.int (nZ 6), .int (nZ 3), .ref q17, .ref q25, .int (nZ 100), .int (nZ 100), .int (nZ 0), .int (nZ 0), .int (nZ 5), .int (nZ 0), .ref q51, .int (nZ 0), .int (nZ 0), .long (lZ 0), .int (nZ 0), .int (nZ 0), .int (nZ 0), .int (nZ 0), .ref q59, .int (nZ 0), .null, .null, .int (nZ 0), .null, .null, .null, .int (nZ 0), .null, .null, .null, .int (nZ 0), .null, .null, .int (nZ 0), .int (nZ 0), .int (nZ 0), .int (nZ 0), .int (nZ 0), .int (nZ 0), .int (nZ 0)])), (q17, .inl (cI, 4, .inl (aZ zF))), (q25, .inl (cI, 48, .inl (aZ zF))), (q51, .inl (cI, 200, .inl (aZ zF))), (q59, .inl (cI, 120, .inl (aZ zF)))] H := hP
  have hD : va_D A [(h, .inr (10, [.int (nZ 6), .int (nZ 3), .ref q17, .ref q25, .int (nZ 100), .int (nZ 100), .int (nZ 0), .int (nZ 0), .int (nZ 5), .int (nZ 0), .ref q51, .int (nZ 0), .int (nZ 0), .long (lZ 0), .int (nZ 0), .int (nZ 0), .int (nZ 0), .int (nZ 0), .ref q59, .int (nZ 0), .null, .null, .int (nZ 0), .null, .null, .null, .int (nZ 0), .null, .null, .null, .int (nZ 0), .null, .null, .int (nZ 0), .int (nZ 0), .int (nZ 0), .int (nZ 0), .int (nZ 0), .int (nZ 0), .int (nZ 0)])), (q17, .inl (cI, 4, .inl (aZ zF))), (q25, .inl (cI, 48, .inl (aZ zF))), (q51, .inl (cI, 200, .inl (aZ zF))), (q59, .inl (cI, 120, .inl (aZ zF)))] := hD
  refine lv_aload_n hx hb dX10_init_64 rfl (lv_at hl 0 rfl) ?_
  refine lv_bipush (v := nZ 12) hx hb dX10_init_65 (by decide) ?_
  refine z_newI (N := 12) hx hb (hts (.arrayClass .int) (List.mem_of_getElem? (i := 6) rfl)) hK hP hD hS hA 0 rfl rfl (Nat.le_of_ble_eq_true rfl) (Nat.le_of_ble_eq_true rfl) (Nat.le_of_ble_eq_true rfl) dX10_init_67 (fun q67 H hP hD hS => ?_)
  have hP : va_P D vwCl [(h, .inr (10, [.int (nZ 6), .int (nZ 3), .ref q17, .ref q25, .int (nZ 100), .int (nZ 100), .int (nZ 0), .int (nZ 0), .int (nZ 5), .int (nZ 0), .ref q51, .int (nZ 0), .int (nZ 0), .long (lZ 0), .int (nZ 0), .int (nZ 0), .int (nZ 0), .int (nZ 0), .ref q59, .int (nZ 0), .null, .null, .int (nZ 0), .null, .null, .null, .int (nZ 0), .null, .null, .null, .int (nZ 0), .null, .null, .int (nZ 0), .int (nZ 0), .int (nZ 0), .int (nZ 0), .int (nZ 0), .int (nZ 0), .int (nZ 0)])), (q17, .inl (cI, 4, .inl (aZ zF))), (q25, .inl (cI, 48, .inl (aZ zF))), (q51, .inl (cI, 200, .inl (aZ zF))), (q59, .inl (cI, 120, .inl (aZ zF))), (q67, .inl (cI, 12, .inl (aZ zF)))] H := hP
  have hD : va_D A [(h, .inr (10, [.int (nZ 6), .int (nZ 3), .ref q17, .ref q25, .int (nZ 100), .int (nZ 100), .int (nZ 0), .int (nZ 0), .int (nZ 5), .int (nZ 0), .ref q51, .int (nZ 0), .int (nZ 0), .long (lZ 0), .int (nZ 0), .int (nZ 0), .int (nZ 0), .int (nZ 0), .ref q59, .int (nZ 0), .null, .null, .int (nZ 0), .null, .null, .null, .int (nZ 0), .null, .null, .null, .int (nZ 0), .null, .null, .int (nZ 0), .int (nZ 0), .int (nZ 0), .int (nZ 0), .int (nZ 0), .int (nZ 0), .int (nZ 0)])), (q17, .inl (cI, 4, .inl (aZ zF))), (q25, .inl (cI, 48, .inl (aZ zF))), (q51, .inl (cI, 200, .inl (aZ zF))), (q59, .inl (cI, 120, .inl (aZ zF))), (q67, .inl (cI, 12, .inl (aZ zF)))] := hD
  refine va_putF (D := D) (ci := 10) (v := .ref q67) (ty := (.array .int)) (C := RX10) (T := TX10) (N := 40) hx hb hts iX10 tyX10 tyX10_ok nmX10 hown hK hP hD hS 0 rfl rfl 20 (by decide) (hts (.fieldLink RX10 38 "RainTargetModel" "first" "[I") (List.mem_of_getElem? (i := 14) rfl)) (fun _ h9 => h9) rfl hin rfl (by decide +kernel) rfl rfl (Nat.le_of_ble_eq_true rfl) dX10_init_69 (fun H locs hP hD hS => ?_)
  have hP : va_P D vwCl [(h, .inr (10, [.int (nZ 6), .int (nZ 3), .ref q17, .ref q25, .int (nZ 100), .int (nZ 100), .int (nZ 0), .int (nZ 0), .int (nZ 5), .int (nZ 0), .ref q51, .int (nZ 0), .int (nZ 0), .long (lZ 0), .int (nZ 0), .int (nZ 0), .int (nZ 0), .int (nZ 0), .ref q59, .int (nZ 0), .ref q67, .null, .int (nZ 0), .null, .null, .null, .int (nZ 0), .null, .null, .null, .int (nZ 0), .null, .null, .int (nZ 0), .int (nZ 0), .int (nZ 0), .int (nZ 0), .int (nZ 0), .int (nZ 0), .int (nZ 0)])), (q17, .inl (cI, 4, .inl (aZ zF))), (q25, .inl (cI, 48, .inl (aZ zF))), (q51, .inl (cI, 200, .inl (aZ zF))), (q59, .inl (cI, 120, .inl (aZ zF))), (q67, .inl (cI, 12, .inl (aZ zF)))] H := hP
  have hD : va_D A [(h, .inr (10, [.int (nZ 6), .int (nZ 3), .ref q17, .ref q25, .int (nZ 100), .int (nZ 100), .int (nZ 0), .int (nZ 0), .int (nZ 5), .int (nZ 0), .ref q51, .int (nZ 0), .int (nZ 0), .long (lZ 0), .int (nZ 0), .int (nZ 0), .int (nZ 0), .int (nZ 0), .ref q59, .int (nZ 0), .ref q67, .null, .int (nZ 0), .null, .null, .null, .int (nZ 0), .null, .null, .null, .int (nZ 0), .null, .null, .int (nZ 0), .int (nZ 0), .int (nZ 0), .int (nZ 0), .int (nZ 0), .int (nZ 0), .int (nZ 0)])), (q17, .inl (cI, 4, .inl (aZ zF))), (q25, .inl (cI, 48, .inl (aZ zF))), (q51, .inl (cI, 200, .inl (aZ zF))), (q59, .inl (cI, 120, .inl (aZ zF))), (q67, .inl (cI, 12, .inl (aZ zF)))] := hD
  refine lv_aload_n hx hb dX10_init_72 rfl (lv_at hl 0 rfl) ?_
  refine lv_bipush (v := nZ 12) hx hb dX10_init_73 (by decide) ?_
  refine z_newI (N := 12) hx hb (hts (.arrayClass .int) (List.mem_of_getElem? (i := 6) rfl)) hK hP hD hS hA 0 rfl rfl (Nat.le_of_ble_eq_true rfl) (Nat.le_of_ble_eq_true rfl) (Nat.le_of_ble_eq_true rfl) dX10_init_75 (fun q75 H hP hD hS => ?_)
  have hP : va_P D vwCl [(h, .inr (10, [.int (nZ 6), .int (nZ 3), .ref q17, .ref q25, .int (nZ 100), .int (nZ 100), .int (nZ 0), .int (nZ 0), .int (nZ 5), .int (nZ 0), .ref q51, .int (nZ 0), .int (nZ 0), .long (lZ 0), .int (nZ 0), .int (nZ 0), .int (nZ 0), .int (nZ 0), .ref q59, .int (nZ 0), .ref q67, .null, .int (nZ 0), .null, .null, .null, .int (nZ 0), .null, .null, .null, .int (nZ 0), .null, .null, .int (nZ 0), .int (nZ 0), .int (nZ 0), .int (nZ 0), .int (nZ 0), .int (nZ 0), .int (nZ 0)])), (q17, .inl (cI, 4, .inl (aZ zF))), (q25, .inl (cI, 48, .inl (aZ zF))), (q51, .inl (cI, 200, .inl (aZ zF))), (q59, .inl (cI, 120, .inl (aZ zF))), (q67, .inl (cI, 12, .inl (aZ zF))), (q75, .inl (cI, 12, .inl (aZ zF)))] H := hP
  have hD : va_D A [(h, .inr (10, [.int (nZ 6), .int (nZ 3), .ref q17, .ref q25, .int (nZ 100), .int (nZ 100), .int (nZ 0), .int (nZ 0), .int (nZ 5), .int (nZ 0), .ref q51, .int (nZ 0), .int (nZ 0), .long (lZ 0), .int (nZ 0), .int (nZ 0), .int (nZ 0), .int (nZ 0), .ref q59, .int (nZ 0), .ref q67, .null, .int (nZ 0), .null, .null, .null, .int (nZ 0), .null, .null, .null, .int (nZ 0), .null, .null, .int (nZ 0), .int (nZ 0), .int (nZ 0), .int (nZ 0), .int (nZ 0), .int (nZ 0), .int (nZ 0)])), (q17, .inl (cI, 4, .inl (aZ zF))), (q25, .inl (cI, 48, .inl (aZ zF))), (q51, .inl (cI, 200, .inl (aZ zF))), (q59, .inl (cI, 120, .inl (aZ zF))), (q67, .inl (cI, 12, .inl (aZ zF))), (q75, .inl (cI, 12, .inl (aZ zF)))] := hD
  refine va_putF (D := D) (ci := 10) (v := .ref q75) (ty := (.array .int)) (C := RX10) (T := TX10) (N := 40) hx hb hts iX10 tyX10 tyX10_ok nmX10 hown hK hP hD hS 0 rfl rfl 21 (by decide) (hts (.fieldLink RX10 41 "RainTargetModel" "sorted" "[I") (List.mem_of_getElem? (i := 15) rfl)) (fun _ h9 => h9) rfl hin rfl (by decide +kernel) rfl rfl (Nat.le_of_ble_eq_true rfl) dX10_init_77 (fun H locs hP hD hS => ?_)
  have hP : va_P D vwCl [(h, .inr (10, [.int (nZ 6), .int (nZ 3), .ref q17, .ref q25, .int (nZ 100), .int (nZ 100), .int (nZ 0), .int (nZ 0), .int (nZ 5), .int (nZ 0), .ref q51, .int (nZ 0), .int (nZ 0), .long (lZ 0), .int (nZ 0), .int (nZ 0), .int (nZ 0), .int (nZ 0), .ref q59, .int (nZ 0), .ref q67, .ref q75, .int (nZ 0), .null, .null, .null, .int (nZ 0), .null, .null, .null, .int (nZ 0), .null, .null, .int (nZ 0), .int (nZ 0), .int (nZ 0), .int (nZ 0), .int (nZ 0), .int (nZ 0), .int (nZ 0)])), (q17, .inl (cI, 4, .inl (aZ zF))), (q25, .inl (cI, 48, .inl (aZ zF))), (q51, .inl (cI, 200, .inl (aZ zF))), (q59, .inl (cI, 120, .inl (aZ zF))), (q67, .inl (cI, 12, .inl (aZ zF))), (q75, .inl (cI, 12, .inl (aZ zF)))] H := hP
  have hD : va_D A [(h, .inr (10, [.int (nZ 6), .int (nZ 3), .ref q17, .ref q25, .int (nZ 100), .int (nZ 100), .int (nZ 0), .int (nZ 0), .int (nZ 5), .int (nZ 0), .ref q51, .int (nZ 0), .int (nZ 0), .long (lZ 0), .int (nZ 0), .int (nZ 0), .int (nZ 0), .int (nZ 0), .ref q59, .int (nZ 0), .ref q67, .ref q75, .int (nZ 0), .null, .null, .null, .int (nZ 0), .null, .null, .null, .int (nZ 0), .null, .null, .int (nZ 0), .int (nZ 0), .int (nZ 0), .int (nZ 0), .int (nZ 0), .int (nZ 0), .int (nZ 0)])), (q17, .inl (cI, 4, .inl (aZ zF))), (q25, .inl (cI, 48, .inl (aZ zF))), (q51, .inl (cI, 200, .inl (aZ zF))), (q59, .inl (cI, 120, .inl (aZ zF))), (q67, .inl (cI, 12, .inl (aZ zF))), (q75, .inl (cI, 12, .inl (aZ zF)))] := hD
  refine lv_aload_n hx hb dX10_init_80 rfl (lv_at hl 0 rfl) ?_
  refine lv_bipush (v := nZ 24) hx hb dX10_init_81 (by decide) ?_
  refine z_newI (N := 24) hx hb (hts (.arrayClass .int) (List.mem_of_getElem? (i := 6) rfl)) hK hP hD hS hA 0 rfl rfl (Nat.le_of_ble_eq_true rfl) (Nat.le_of_ble_eq_true rfl) (Nat.le_of_ble_eq_true rfl) dX10_init_83 (fun q83 H hP hD hS => ?_)
  have hP : va_P D vwCl [(h, .inr (10, [.int (nZ 6), .int (nZ 3), .ref q17, .ref q25, .int (nZ 100), .int (nZ 100), .int (nZ 0), .int (nZ 0), .int (nZ 5), .int (nZ 0), .ref q51, .int (nZ 0), .int (nZ 0), .long (lZ 0), .int (nZ 0), .int (nZ 0), .int (nZ 0), .int (nZ 0), .ref q59, .int (nZ 0), .ref q67, .ref q75, .int (nZ 0), .null, .null, .null, .int (nZ 0), .null, .null, .null, .int (nZ 0), .null, .null, .int (nZ 0), .int (nZ 0), .int (nZ 0), .int (nZ 0), .int (nZ 0), .int (nZ 0), .int (nZ 0)])), (q17, .inl (cI, 4, .inl (aZ zF))), (q25, .inl (cI, 48, .inl (aZ zF))), (q51, .inl (cI, 200, .inl (aZ zF))), (q59, .inl (cI, 120, .inl (aZ zF))), (q67, .inl (cI, 12, .inl (aZ zF))), (q75, .inl (cI, 12, .inl (aZ zF))), (q83, .inl (cI, 24, .inl (aZ zF)))] H := hP
  have hD : va_D A [(h, .inr (10, [.int (nZ 6), .int (nZ 3), .ref q17, .ref q25, .int (nZ 100), .int (nZ 100), .int (nZ 0), .int (nZ 0), .int (nZ 5), .int (nZ 0), .ref q51, .int (nZ 0), .int (nZ 0), .long (lZ 0), .int (nZ 0), .int (nZ 0), .int (nZ 0), .int (nZ 0), .ref q59, .int (nZ 0), .ref q67, .ref q75, .int (nZ 0), .null, .null, .null, .int (nZ 0), .null, .null, .null, .int (nZ 0), .null, .null, .int (nZ 0), .int (nZ 0), .int (nZ 0), .int (nZ 0), .int (nZ 0), .int (nZ 0), .int (nZ 0)])), (q17, .inl (cI, 4, .inl (aZ zF))), (q25, .inl (cI, 48, .inl (aZ zF))), (q51, .inl (cI, 200, .inl (aZ zF))), (q59, .inl (cI, 120, .inl (aZ zF))), (q67, .inl (cI, 12, .inl (aZ zF))), (q75, .inl (cI, 12, .inl (aZ zF))), (q83, .inl (cI, 24, .inl (aZ zF)))] := hD
  refine va_putF (D := D) (ci := 10) (v := .ref q83) (ty := (.array .int)) (C := RX10) (T := TX10) (N := 40) hx hb hts iX10 tyX10 tyX10_ok nmX10 hown hK hP hD hS 0 rfl rfl 23 (by decide) (hts (.fieldLink RX10 44 "RainTargetModel" "kind" "[I") (List.mem_of_getElem? (i := 16) rfl)) (fun _ h9 => h9) rfl hin rfl (by decide +kernel) rfl rfl (Nat.le_of_ble_eq_true rfl) dX10_init_85 (fun H locs hP hD hS => ?_)
  have hP : va_P D vwCl [(h, .inr (10, [.int (nZ 6), .int (nZ 3), .ref q17, .ref q25, .int (nZ 100), .int (nZ 100), .int (nZ 0), .int (nZ 0), .int (nZ 5), .int (nZ 0), .ref q51, .int (nZ 0), .int (nZ 0), .long (lZ 0), .int (nZ 0), .int (nZ 0), .int (nZ 0), .int (nZ 0), .ref q59, .int (nZ 0), .ref q67, .ref q75, .int (nZ 0), .ref q83, .null, .null, .int (nZ 0), .null, .null, .null, .int (nZ 0), .null, .null, .int (nZ 0), .int (nZ 0), .int (nZ 0), .int (nZ 0), .int (nZ 0), .int (nZ 0), .int (nZ 0)])), (q17, .inl (cI, 4, .inl (aZ zF))), (q25, .inl (cI, 48, .inl (aZ zF))), (q51, .inl (cI, 200, .inl (aZ zF))), (q59, .inl (cI, 120, .inl (aZ zF))), (q67, .inl (cI, 12, .inl (aZ zF))), (q75, .inl (cI, 12, .inl (aZ zF))), (q83, .inl (cI, 24, .inl (aZ zF)))] H := hP
  have hD : va_D A [(h, .inr (10, [.int (nZ 6), .int (nZ 3), .ref q17, .ref q25, .int (nZ 100), .int (nZ 100), .int (nZ 0), .int (nZ 0), .int (nZ 5), .int (nZ 0), .ref q51, .int (nZ 0), .int (nZ 0), .long (lZ 0), .int (nZ 0), .int (nZ 0), .int (nZ 0), .int (nZ 0), .ref q59, .int (nZ 0), .ref q67, .ref q75, .int (nZ 0), .ref q83, .null, .null, .int (nZ 0), .null, .null, .null, .int (nZ 0), .null, .null, .int (nZ 0), .int (nZ 0), .int (nZ 0), .int (nZ 0), .int (nZ 0), .int (nZ 0), .int (nZ 0)])), (q17, .inl (cI, 4, .inl (aZ zF))), (q25, .inl (cI, 48, .inl (aZ zF))), (q51, .inl (cI, 200, .inl (aZ zF))), (q59, .inl (cI, 120, .inl (aZ zF))), (q67, .inl (cI, 12, .inl (aZ zF))), (q75, .inl (cI, 12, .inl (aZ zF))), (q83, .inl (cI, 24, .inl (aZ zF)))] := hD
  refine lv_aload_n hx hb dX10_init_88 rfl (lv_at hl 0 rfl) ?_
  refine lv_bipush (v := nZ 24) hx hb dX10_init_89 (by decide) ?_
  refine z_newI (N := 24) hx hb (hts (.arrayClass .int) (List.mem_of_getElem? (i := 6) rfl)) hK hP hD hS hA 0 rfl rfl (Nat.le_of_ble_eq_true rfl) (Nat.le_of_ble_eq_true rfl) (Nat.le_of_ble_eq_true rfl) dX10_init_91 (fun q91 H hP hD hS => ?_)
  have hP : va_P D vwCl [(h, .inr (10, [.int (nZ 6), .int (nZ 3), .ref q17, .ref q25, .int (nZ 100), .int (nZ 100), .int (nZ 0), .int (nZ 0), .int (nZ 5), .int (nZ 0), .ref q51, .int (nZ 0), .int (nZ 0), .long (lZ 0), .int (nZ 0), .int (nZ 0), .int (nZ 0), .int (nZ 0), .ref q59, .int (nZ 0), .ref q67, .ref q75, .int (nZ 0), .ref q83, .null, .null, .int (nZ 0), .null, .null, .null, .int (nZ 0), .null, .null, .int (nZ 0), .int (nZ 0), .int (nZ 0), .int (nZ 0), .int (nZ 0), .int (nZ 0), .int (nZ 0)])), (q17, .inl (cI, 4, .inl (aZ zF))), (q25, .inl (cI, 48, .inl (aZ zF))), (q51, .inl (cI, 200, .inl (aZ zF))), (q59, .inl (cI, 120, .inl (aZ zF))), (q67, .inl (cI, 12, .inl (aZ zF))), (q75, .inl (cI, 12, .inl (aZ zF))), (q83, .inl (cI, 24, .inl (aZ zF))), (q91, .inl (cI, 24, .inl (aZ zF)))] H := hP
  have hD : va_D A [(h, .inr (10, [.int (nZ 6), .int (nZ 3), .ref q17, .ref q25, .int (nZ 100), .int (nZ 100), .int (nZ 0), .int (nZ 0), .int (nZ 5), .int (nZ 0), .ref q51, .int (nZ 0), .int (nZ 0), .long (lZ 0), .int (nZ 0), .int (nZ 0), .int (nZ 0), .int (nZ 0), .ref q59, .int (nZ 0), .ref q67, .ref q75, .int (nZ 0), .ref q83, .null, .null, .int (nZ 0), .null, .null, .null, .int (nZ 0), .null, .null, .int (nZ 0), .int (nZ 0), .int (nZ 0), .int (nZ 0), .int (nZ 0), .int (nZ 0), .int (nZ 0)])), (q17, .inl (cI, 4, .inl (aZ zF))), (q25, .inl (cI, 48, .inl (aZ zF))), (q51, .inl (cI, 200, .inl (aZ zF))), (q59, .inl (cI, 120, .inl (aZ zF))), (q67, .inl (cI, 12, .inl (aZ zF))), (q75, .inl (cI, 12, .inl (aZ zF))), (q83, .inl (cI, 24, .inl (aZ zF))), (q91, .inl (cI, 24, .inl (aZ zF)))] := hD
  refine va_putF (D := D) (ci := 10) (v := .ref q91) (ty := (.array .int)) (C := RX10) (T := TX10) (N := 40) hx hb hts iX10 tyX10 tyX10_ok nmX10 hown hK hP hD hS 0 rfl rfl 24 (by decide) (hts (.fieldLink RX10 47 "RainTargetModel" "runsOf" "[I") (List.mem_of_getElem? (i := 17) rfl)) (fun _ h9 => h9) rfl hin rfl (by decide +kernel) rfl rfl (Nat.le_of_ble_eq_true rfl) dX10_init_93 (fun H locs hP hD hS => ?_)
  have hP : va_P D vwCl [(h, .inr (10, [.int (nZ 6), .int (nZ 3), .ref q17, .ref q25, .int (nZ 100), .int (nZ 100), .int (nZ 0), .int (nZ 0), .int (nZ 5), .int (nZ 0), .ref q51, .int (nZ 0), .int (nZ 0), .long (lZ 0), .int (nZ 0), .int (nZ 0), .int (nZ 0), .int (nZ 0), .ref q59, .int (nZ 0), .ref q67, .ref q75, .int (nZ 0), .ref q83, .ref q91, .null, .int (nZ 0), .null, .null, .null, .int (nZ 0), .null, .null, .int (nZ 0), .int (nZ 0), .int (nZ 0), .int (nZ 0), .int (nZ 0), .int (nZ 0), .int (nZ 0)])), (q17, .inl (cI, 4, .inl (aZ zF))), (q25, .inl (cI, 48, .inl (aZ zF))), (q51, .inl (cI, 200, .inl (aZ zF))), (q59, .inl (cI, 120, .inl (aZ zF))), (q67, .inl (cI, 12, .inl (aZ zF))), (q75, .inl (cI, 12, .inl (aZ zF))), (q83, .inl (cI, 24, .inl (aZ zF))), (q91, .inl (cI, 24, .inl (aZ zF)))] H := hP
  have hD : va_D A [(h, .inr (10, [.int (nZ 6), .int (nZ 3), .ref q17, .ref q25, .int (nZ 100), .int (nZ 100), .int (nZ 0), .int (nZ 0), .int (nZ 5), .int (nZ 0), .ref q51, .int (nZ 0), .int (nZ 0), .long (lZ 0), .int (nZ 0), .int (nZ 0), .int (nZ 0), .int (nZ 0), .ref q59, .int (nZ 0), .ref q67, .ref q75, .int (nZ 0), .ref q83, .ref q91, .null, .int (nZ 0), .null, .null, .null, .int (nZ 0), .null, .null, .int (nZ 0), .int (nZ 0), .int (nZ 0), .int (nZ 0), .int (nZ 0), .int (nZ 0), .int (nZ 0)])), (q17, .inl (cI, 4, .inl (aZ zF))), (q25, .inl (cI, 48, .inl (aZ zF))), (q51, .inl (cI, 200, .inl (aZ zF))), (q59, .inl (cI, 120, .inl (aZ zF))), (q67, .inl (cI, 12, .inl (aZ zF))), (q75, .inl (cI, 12, .inl (aZ zF))), (q83, .inl (cI, 24, .inl (aZ zF))), (q91, .inl (cI, 24, .inl (aZ zF)))] := hD
  refine lv_aload_n hx hb dX10_init_96 rfl (lv_at hl 0 rfl) ?_
  refine lv_bipush (v := nZ 24) hx hb dX10_init_97 (by decide) ?_
  refine z_newI (N := 24) hx hb (hts (.arrayClass .int) (List.mem_of_getElem? (i := 6) rfl)) hK hP hD hS hA 0 rfl rfl (Nat.le_of_ble_eq_true rfl) (Nat.le_of_ble_eq_true rfl) (Nat.le_of_ble_eq_true rfl) dX10_init_99 (fun q99 H hP hD hS => ?_)
  have hP : va_P D vwCl [(h, .inr (10, [.int (nZ 6), .int (nZ 3), .ref q17, .ref q25, .int (nZ 100), .int (nZ 100), .int (nZ 0), .int (nZ 0), .int (nZ 5), .int (nZ 0), .ref q51, .int (nZ 0), .int (nZ 0), .long (lZ 0), .int (nZ 0), .int (nZ 0), .int (nZ 0), .int (nZ 0), .ref q59, .int (nZ 0), .ref q67, .ref q75, .int (nZ 0), .ref q83, .ref q91, .null, .int (nZ 0), .null, .null, .null, .int (nZ 0), .null, .null, .int (nZ 0), .int (nZ 0), .int (nZ 0), .int (nZ 0), .int (nZ 0), .int (nZ 0), .int (nZ 0)])), (q17, .inl (cI, 4, .inl (aZ zF))), (q25, .inl (cI, 48, .inl (aZ zF))), (q51, .inl (cI, 200, .inl (aZ zF))), (q59, .inl (cI, 120, .inl (aZ zF))), (q67, .inl (cI, 12, .inl (aZ zF))), (q75, .inl (cI, 12, .inl (aZ zF))), (q83, .inl (cI, 24, .inl (aZ zF))), (q91, .inl (cI, 24, .inl (aZ zF))), (q99, .inl (cI, 24, .inl (aZ zF)))] H := hP
  have hD : va_D A [(h, .inr (10, [.int (nZ 6), .int (nZ 3), .ref q17, .ref q25, .int (nZ 100), .int (nZ 100), .int (nZ 0), .int (nZ 0), .int (nZ 5), .int (nZ 0), .ref q51, .int (nZ 0), .int (nZ 0), .long (lZ 0), .int (nZ 0), .int (nZ 0), .int (nZ 0), .int (nZ 0), .ref q59, .int (nZ 0), .ref q67, .ref q75, .int (nZ 0), .ref q83, .ref q91, .null, .int (nZ 0), .null, .null, .null, .int (nZ 0), .null, .null, .int (nZ 0), .int (nZ 0), .int (nZ 0), .int (nZ 0), .int (nZ 0), .int (nZ 0), .int (nZ 0)])), (q17, .inl (cI, 4, .inl (aZ zF))), (q25, .inl (cI, 48, .inl (aZ zF))), (q51, .inl (cI, 200, .inl (aZ zF))), (q59, .inl (cI, 120, .inl (aZ zF))), (q67, .inl (cI, 12, .inl (aZ zF))), (q75, .inl (cI, 12, .inl (aZ zF))), (q83, .inl (cI, 24, .inl (aZ zF))), (q91, .inl (cI, 24, .inl (aZ zF))), (q99, .inl (cI, 24, .inl (aZ zF)))] := hD
  refine va_putF (D := D) (ci := 10) (v := .ref q99) (ty := (.array .int)) (C := RX10) (T := TX10) (N := 40) hx hb hts iX10 tyX10 tyX10_ok nmX10 hown hK hP hD hS 0 rfl rfl 25 (by decide) (hts (.fieldLink RX10 50 "RainTargetModel" "outsOf" "[I") (List.mem_of_getElem? (i := 18) rfl)) (fun _ h9 => h9) rfl hin rfl (by decide +kernel) rfl rfl (Nat.le_of_ble_eq_true rfl) dX10_init_101 (fun H locs hP hD hS => ?_)
  have hP : va_P D vwCl [(h, .inr (10, [.int (nZ 6), .int (nZ 3), .ref q17, .ref q25, .int (nZ 100), .int (nZ 100), .int (nZ 0), .int (nZ 0), .int (nZ 5), .int (nZ 0), .ref q51, .int (nZ 0), .int (nZ 0), .long (lZ 0), .int (nZ 0), .int (nZ 0), .int (nZ 0), .int (nZ 0), .ref q59, .int (nZ 0), .ref q67, .ref q75, .int (nZ 0), .ref q83, .ref q91, .ref q99, .int (nZ 0), .null, .null, .null, .int (nZ 0), .null, .null, .int (nZ 0), .int (nZ 0), .int (nZ 0), .int (nZ 0), .int (nZ 0), .int (nZ 0), .int (nZ 0)])), (q17, .inl (cI, 4, .inl (aZ zF))), (q25, .inl (cI, 48, .inl (aZ zF))), (q51, .inl (cI, 200, .inl (aZ zF))), (q59, .inl (cI, 120, .inl (aZ zF))), (q67, .inl (cI, 12, .inl (aZ zF))), (q75, .inl (cI, 12, .inl (aZ zF))), (q83, .inl (cI, 24, .inl (aZ zF))), (q91, .inl (cI, 24, .inl (aZ zF))), (q99, .inl (cI, 24, .inl (aZ zF)))] H := hP
  have hD : va_D A [(h, .inr (10, [.int (nZ 6), .int (nZ 3), .ref q17, .ref q25, .int (nZ 100), .int (nZ 100), .int (nZ 0), .int (nZ 0), .int (nZ 5), .int (nZ 0), .ref q51, .int (nZ 0), .int (nZ 0), .long (lZ 0), .int (nZ 0), .int (nZ 0), .int (nZ 0), .int (nZ 0), .ref q59, .int (nZ 0), .ref q67, .ref q75, .int (nZ 0), .ref q83, .ref q91, .ref q99, .int (nZ 0), .null, .null, .null, .int (nZ 0), .null, .null, .int (nZ 0), .int (nZ 0), .int (nZ 0), .int (nZ 0), .int (nZ 0), .int (nZ 0), .int (nZ 0)])), (q17, .inl (cI, 4, .inl (aZ zF))), (q25, .inl (cI, 48, .inl (aZ zF))), (q51, .inl (cI, 200, .inl (aZ zF))), (q59, .inl (cI, 120, .inl (aZ zF))), (q67, .inl (cI, 12, .inl (aZ zF))), (q75, .inl (cI, 12, .inl (aZ zF))), (q83, .inl (cI, 24, .inl (aZ zF))), (q91, .inl (cI, 24, .inl (aZ zF))), (q99, .inl (cI, 24, .inl (aZ zF)))] := hD
  refine lv_aload_n hx hb dX10_init_104 rfl (lv_at hl 0 rfl) ?_
  refine lv_bipush (v := nZ 24) hx hb dX10_init_105 (by decide) ?_
  refine z_newI (N := 24) hx hb (hts (.arrayClass .int) (List.mem_of_getElem? (i := 6) rfl)) hK hP hD hS hA 0 rfl rfl (Nat.le_of_ble_eq_true rfl) (Nat.le_of_ble_eq_true rfl) (Nat.le_of_ble_eq_true rfl) dX10_init_107 (fun q107 H hP hD hS => ?_)
  have hP : va_P D vwCl [(h, .inr (10, [.int (nZ 6), .int (nZ 3), .ref q17, .ref q25, .int (nZ 100), .int (nZ 100), .int (nZ 0), .int (nZ 0), .int (nZ 5), .int (nZ 0), .ref q51, .int (nZ 0), .int (nZ 0), .long (lZ 0), .int (nZ 0), .int (nZ 0), .int (nZ 0), .int (nZ 0), .ref q59, .int (nZ 0), .ref q67, .ref q75, .int (nZ 0), .ref q83, .ref q91, .ref q99, .int (nZ 0), .null, .null, .null, .int (nZ 0), .null, .null, .int (nZ 0), .int (nZ 0), .int (nZ 0), .int (nZ 0), .int (nZ 0), .int (nZ 0), .int (nZ 0)])), (q17, .inl (cI, 4, .inl (aZ zF))), (q25, .inl (cI, 48, .inl (aZ zF))), (q51, .inl (cI, 200, .inl (aZ zF))), (q59, .inl (cI, 120, .inl (aZ zF))), (q67, .inl (cI, 12, .inl (aZ zF))), (q75, .inl (cI, 12, .inl (aZ zF))), (q83, .inl (cI, 24, .inl (aZ zF))), (q91, .inl (cI, 24, .inl (aZ zF))), (q99, .inl (cI, 24, .inl (aZ zF))), (q107, .inl (cI, 24, .inl (aZ zF)))] H := hP
  have hD : va_D A [(h, .inr (10, [.int (nZ 6), .int (nZ 3), .ref q17, .ref q25, .int (nZ 100), .int (nZ 100), .int (nZ 0), .int (nZ 0), .int (nZ 5), .int (nZ 0), .ref q51, .int (nZ 0), .int (nZ 0), .long (lZ 0), .int (nZ 0), .int (nZ 0), .int (nZ 0), .int (nZ 0), .ref q59, .int (nZ 0), .ref q67, .ref q75, .int (nZ 0), .ref q83, .ref q91, .ref q99, .int (nZ 0), .null, .null, .null, .int (nZ 0), .null, .null, .int (nZ 0), .int (nZ 0), .int (nZ 0), .int (nZ 0), .int (nZ 0), .int (nZ 0), .int (nZ 0)])), (q17, .inl (cI, 4, .inl (aZ zF))), (q25, .inl (cI, 48, .inl (aZ zF))), (q51, .inl (cI, 200, .inl (aZ zF))), (q59, .inl (cI, 120, .inl (aZ zF))), (q67, .inl (cI, 12, .inl (aZ zF))), (q75, .inl (cI, 12, .inl (aZ zF))), (q83, .inl (cI, 24, .inl (aZ zF))), (q91, .inl (cI, 24, .inl (aZ zF))), (q99, .inl (cI, 24, .inl (aZ zF))), (q107, .inl (cI, 24, .inl (aZ zF)))] := hD
  refine va_putF (D := D) (ci := 10) (v := .ref q107) (ty := (.array .int)) (C := RX10) (T := TX10) (N := 40) hx hb hts iX10 tyX10 tyX10_ok nmX10 hown hK hP hD hS 0 rfl rfl 27 (by decide) (hts (.fieldLink RX10 53 "RainTargetModel" "matchOvers" "[I") (List.mem_of_getElem? (i := 19) rfl)) (fun _ h9 => h9) rfl hin rfl (by decide +kernel) rfl rfl (Nat.le_of_ble_eq_true rfl) dX10_init_109 (fun H locs hP hD hS => ?_)
  have hP : va_P D vwCl [(h, .inr (10, [.int (nZ 6), .int (nZ 3), .ref q17, .ref q25, .int (nZ 100), .int (nZ 100), .int (nZ 0), .int (nZ 0), .int (nZ 5), .int (nZ 0), .ref q51, .int (nZ 0), .int (nZ 0), .long (lZ 0), .int (nZ 0), .int (nZ 0), .int (nZ 0), .int (nZ 0), .ref q59, .int (nZ 0), .ref q67, .ref q75, .int (nZ 0), .ref q83, .ref q91, .ref q99, .int (nZ 0), .ref q107, .null, .null, .int (nZ 0), .null, .null, .int (nZ 0), .int (nZ 0), .int (nZ 0), .int (nZ 0), .int (nZ 0), .int (nZ 0), .int (nZ 0)])), (q17, .inl (cI, 4, .inl (aZ zF))), (q25, .inl (cI, 48, .inl (aZ zF))), (q51, .inl (cI, 200, .inl (aZ zF))), (q59, .inl (cI, 120, .inl (aZ zF))), (q67, .inl (cI, 12, .inl (aZ zF))), (q75, .inl (cI, 12, .inl (aZ zF))), (q83, .inl (cI, 24, .inl (aZ zF))), (q91, .inl (cI, 24, .inl (aZ zF))), (q99, .inl (cI, 24, .inl (aZ zF))), (q107, .inl (cI, 24, .inl (aZ zF)))] H := hP
  have hD : va_D A [(h, .inr (10, [.int (nZ 6), .int (nZ 3), .ref q17, .ref q25, .int (nZ 100), .int (nZ 100), .int (nZ 0), .int (nZ 0), .int (nZ 5), .int (nZ 0), .ref q51, .int (nZ 0), .int (nZ 0), .long (lZ 0), .int (nZ 0), .int (nZ 0), .int (nZ 0), .int (nZ 0), .ref q59, .int (nZ 0), .ref q67, .ref q75, .int (nZ 0), .ref q83, .ref q91, .ref q99, .int (nZ 0), .ref q107, .null, .null, .int (nZ 0), .null, .null, .int (nZ 0), .int (nZ 0), .int (nZ 0), .int (nZ 0), .int (nZ 0), .int (nZ 0), .int (nZ 0)])), (q17, .inl (cI, 4, .inl (aZ zF))), (q25, .inl (cI, 48, .inl (aZ zF))), (q51, .inl (cI, 200, .inl (aZ zF))), (q59, .inl (cI, 120, .inl (aZ zF))), (q67, .inl (cI, 12, .inl (aZ zF))), (q75, .inl (cI, 12, .inl (aZ zF))), (q83, .inl (cI, 24, .inl (aZ zF))), (q91, .inl (cI, 24, .inl (aZ zF))), (q99, .inl (cI, 24, .inl (aZ zF))), (q107, .inl (cI, 24, .inl (aZ zF)))] := hD
  refine lv_aload_n hx hb dX10_init_112 rfl (lv_at hl 0 rfl) ?_
  refine lv_bipush (v := nZ 24) hx hb dX10_init_113 (by decide) ?_
  refine z_newI (N := 24) hx hb (hts (.arrayClass .int) (List.mem_of_getElem? (i := 6) rfl)) hK hP hD hS hA 0 rfl rfl (Nat.le_of_ble_eq_true rfl) (Nat.le_of_ble_eq_true rfl) (Nat.le_of_ble_eq_true rfl) dX10_init_115 (fun q115 H hP hD hS => ?_)
  have hP : va_P D vwCl [(h, .inr (10, [.int (nZ 6), .int (nZ 3), .ref q17, .ref q25, .int (nZ 100), .int (nZ 100), .int (nZ 0), .int (nZ 0), .int (nZ 5), .int (nZ 0), .ref q51, .int (nZ 0), .int (nZ 0), .long (lZ 0), .int (nZ 0), .int (nZ 0), .int (nZ 0), .int (nZ 0), .ref q59, .int (nZ 0), .ref q67, .ref q75, .int (nZ 0), .ref q83, .ref q91, .ref q99, .int (nZ 0), .ref q107, .null, .null, .int (nZ 0), .null, .null, .int (nZ 0), .int (nZ 0), .int (nZ 0), .int (nZ 0), .int (nZ 0), .int (nZ 0), .int (nZ 0)])), (q17, .inl (cI, 4, .inl (aZ zF))), (q25, .inl (cI, 48, .inl (aZ zF))), (q51, .inl (cI, 200, .inl (aZ zF))), (q59, .inl (cI, 120, .inl (aZ zF))), (q67, .inl (cI, 12, .inl (aZ zF))), (q75, .inl (cI, 12, .inl (aZ zF))), (q83, .inl (cI, 24, .inl (aZ zF))), (q91, .inl (cI, 24, .inl (aZ zF))), (q99, .inl (cI, 24, .inl (aZ zF))), (q107, .inl (cI, 24, .inl (aZ zF))), (q115, .inl (cI, 24, .inl (aZ zF)))] H := hP
  have hD : va_D A [(h, .inr (10, [.int (nZ 6), .int (nZ 3), .ref q17, .ref q25, .int (nZ 100), .int (nZ 100), .int (nZ 0), .int (nZ 0), .int (nZ 5), .int (nZ 0), .ref q51, .int (nZ 0), .int (nZ 0), .long (lZ 0), .int (nZ 0), .int (nZ 0), .int (nZ 0), .int (nZ 0), .ref q59, .int (nZ 0), .ref q67, .ref q75, .int (nZ 0), .ref q83, .ref q91, .ref q99, .int (nZ 0), .ref q107, .null, .null, .int (nZ 0), .null, .null, .int (nZ 0), .int (nZ 0), .int (nZ 0), .int (nZ 0), .int (nZ 0), .int (nZ 0), .int (nZ 0)])), (q17, .inl (cI, 4, .inl (aZ zF))), (q25, .inl (cI, 48, .inl (aZ zF))), (q51, .inl (cI, 200, .inl (aZ zF))), (q59, .inl (cI, 120, .inl (aZ zF))), (q67, .inl (cI, 12, .inl (aZ zF))), (q75, .inl (cI, 12, .inl (aZ zF))), (q83, .inl (cI, 24, .inl (aZ zF))), (q91, .inl (cI, 24, .inl (aZ zF))), (q99, .inl (cI, 24, .inl (aZ zF))), (q107, .inl (cI, 24, .inl (aZ zF))), (q115, .inl (cI, 24, .inl (aZ zF)))] := hD
  refine va_putF (D := D) (ci := 10) (v := .ref q115) (ty := (.array .int)) (C := RX10) (T := TX10) (N := 40) hx hb hts iX10 tyX10 tyX10_ok nmX10 hown hK hP hD hS 0 rfl rfl 28 (by decide) (hts (.fieldLink RX10 56 "RainTargetModel" "matchMen" "[I") (List.mem_of_getElem? (i := 20) rfl)) (fun _ h9 => h9) rfl hin rfl (by decide +kernel) rfl rfl (Nat.le_of_ble_eq_true rfl) dX10_init_117 (fun H locs hP hD hS => ?_)
  have hP : va_P D vwCl [(h, .inr (10, [.int (nZ 6), .int (nZ 3), .ref q17, .ref q25, .int (nZ 100), .int (nZ 100), .int (nZ 0), .int (nZ 0), .int (nZ 5), .int (nZ 0), .ref q51, .int (nZ 0), .int (nZ 0), .long (lZ 0), .int (nZ 0), .int (nZ 0), .int (nZ 0), .int (nZ 0), .ref q59, .int (nZ 0), .ref q67, .ref q75, .int (nZ 0), .ref q83, .ref q91, .ref q99, .int (nZ 0), .ref q107, .ref q115, .null, .int (nZ 0), .null, .null, .int (nZ 0), .int (nZ 0), .int (nZ 0), .int (nZ 0), .int (nZ 0), .int (nZ 0), .int (nZ 0)])), (q17, .inl (cI, 4, .inl (aZ zF))), (q25, .inl (cI, 48, .inl (aZ zF))), (q51, .inl (cI, 200, .inl (aZ zF))), (q59, .inl (cI, 120, .inl (aZ zF))), (q67, .inl (cI, 12, .inl (aZ zF))), (q75, .inl (cI, 12, .inl (aZ zF))), (q83, .inl (cI, 24, .inl (aZ zF))), (q91, .inl (cI, 24, .inl (aZ zF))), (q99, .inl (cI, 24, .inl (aZ zF))), (q107, .inl (cI, 24, .inl (aZ zF))), (q115, .inl (cI, 24, .inl (aZ zF)))] H := hP
  have hD : va_D A [(h, .inr (10, [.int (nZ 6), .int (nZ 3), .ref q17, .ref q25, .int (nZ 100), .int (nZ 100), .int (nZ 0), .int (nZ 0), .int (nZ 5), .int (nZ 0), .ref q51, .int (nZ 0), .int (nZ 0), .long (lZ 0), .int (nZ 0), .int (nZ 0), .int (nZ 0), .int (nZ 0), .ref q59, .int (nZ 0), .ref q67, .ref q75, .int (nZ 0), .ref q83, .ref q91, .ref q99, .int (nZ 0), .ref q107, .ref q115, .null, .int (nZ 0), .null, .null, .int (nZ 0), .int (nZ 0), .int (nZ 0), .int (nZ 0), .int (nZ 0), .int (nZ 0), .int (nZ 0)])), (q17, .inl (cI, 4, .inl (aZ zF))), (q25, .inl (cI, 48, .inl (aZ zF))), (q51, .inl (cI, 200, .inl (aZ zF))), (q59, .inl (cI, 120, .inl (aZ zF))), (q67, .inl (cI, 12, .inl (aZ zF))), (q75, .inl (cI, 12, .inl (aZ zF))), (q83, .inl (cI, 24, .inl (aZ zF))), (q91, .inl (cI, 24, .inl (aZ zF))), (q99, .inl (cI, 24, .inl (aZ zF))), (q107, .inl (cI, 24, .inl (aZ zF))), (q115, .inl (cI, 24, .inl (aZ zF)))] := hD
  refine lv_aload_n hx hb dX10_init_120 rfl (lv_at hl 0 rfl) ?_
  refine lv_bipush (v := nZ 24) hx hb dX10_init_121 (by decide) ?_
  refine z_newI (N := 24) hx hb (hts (.arrayClass .int) (List.mem_of_getElem? (i := 6) rfl)) hK hP hD hS hA 0 rfl rfl (Nat.le_of_ble_eq_true rfl) (Nat.le_of_ble_eq_true rfl) (Nat.le_of_ble_eq_true rfl) dX10_init_123 (fun q123 H hP hD hS => ?_)
  have hP : va_P D vwCl [(h, .inr (10, [.int (nZ 6), .int (nZ 3), .ref q17, .ref q25, .int (nZ 100), .int (nZ 100), .int (nZ 0), .int (nZ 0), .int (nZ 5), .int (nZ 0), .ref q51, .int (nZ 0), .int (nZ 0), .long (lZ 0), .int (nZ 0), .int (nZ 0), .int (nZ 0), .int (nZ 0), .ref q59, .int (nZ 0), .ref q67, .ref q75, .int (nZ 0), .ref q83, .ref q91, .ref q99, .int (nZ 0), .ref q107, .ref q115, .null, .int (nZ 0), .null, .null, .int (nZ 0), .int (nZ 0), .int (nZ 0), .int (nZ 0), .int (nZ 0), .int (nZ 0), .int (nZ 0)])), (q17, .inl (cI, 4, .inl (aZ zF))), (q25, .inl (cI, 48, .inl (aZ zF))), (q51, .inl (cI, 200, .inl (aZ zF))), (q59, .inl (cI, 120, .inl (aZ zF))), (q67, .inl (cI, 12, .inl (aZ zF))), (q75, .inl (cI, 12, .inl (aZ zF))), (q83, .inl (cI, 24, .inl (aZ zF))), (q91, .inl (cI, 24, .inl (aZ zF))), (q99, .inl (cI, 24, .inl (aZ zF))), (q107, .inl (cI, 24, .inl (aZ zF))), (q115, .inl (cI, 24, .inl (aZ zF))), (q123, .inl (cI, 24, .inl (aZ zF)))] H := hP
  have hD : va_D A [(h, .inr (10, [.int (nZ 6), .int (nZ 3), .ref q17, .ref q25, .int (nZ 100), .int (nZ 100), .int (nZ 0), .int (nZ 0), .int (nZ 5), .int (nZ 0), .ref q51, .int (nZ 0), .int (nZ 0), .long (lZ 0), .int (nZ 0), .int (nZ 0), .int (nZ 0), .int (nZ 0), .ref q59, .int (nZ 0), .ref q67, .ref q75, .int (nZ 0), .ref q83, .ref q91, .ref q99, .int (nZ 0), .ref q107, .ref q115, .null, .int (nZ 0), .null, .null, .int (nZ 0), .int (nZ 0), .int (nZ 0), .int (nZ 0), .int (nZ 0), .int (nZ 0), .int (nZ 0)])), (q17, .inl (cI, 4, .inl (aZ zF))), (q25, .inl (cI, 48, .inl (aZ zF))), (q51, .inl (cI, 200, .inl (aZ zF))), (q59, .inl (cI, 120, .inl (aZ zF))), (q67, .inl (cI, 12, .inl (aZ zF))), (q75, .inl (cI, 12, .inl (aZ zF))), (q83, .inl (cI, 24, .inl (aZ zF))), (q91, .inl (cI, 24, .inl (aZ zF))), (q99, .inl (cI, 24, .inl (aZ zF))), (q107, .inl (cI, 24, .inl (aZ zF))), (q115, .inl (cI, 24, .inl (aZ zF))), (q123, .inl (cI, 24, .inl (aZ zF)))] := hD
  refine va_putF (D := D) (ci := 10) (v := .ref q123) (ty := (.array .int)) (C := RX10) (T := TX10) (N := 40) hx hb hts iX10 tyX10 tyX10_ok nmX10 hown hK hP hD hS 0 rfl rfl 29 (by decide) (hts (.fieldLink RX10 59 "RainTargetModel" "matchRuns" "[I") (List.mem_of_getElem? (i := 21) rfl)) (fun _ h9 => h9) rfl hin rfl (by decide +kernel) rfl rfl (Nat.le_of_ble_eq_true rfl) dX10_init_125 (fun H locs hP hD hS => ?_)
  have hP : va_P D vwCl [(h, .inr (10, [.int (nZ 6), .int (nZ 3), .ref q17, .ref q25, .int (nZ 100), .int (nZ 100), .int (nZ 0), .int (nZ 0), .int (nZ 5), .int (nZ 0), .ref q51, .int (nZ 0), .int (nZ 0), .long (lZ 0), .int (nZ 0), .int (nZ 0), .int (nZ 0), .int (nZ 0), .ref q59, .int (nZ 0), .ref q67, .ref q75, .int (nZ 0), .ref q83, .ref q91, .ref q99, .int (nZ 0), .ref q107, .ref q115, .ref q123, .int (nZ 0), .null, .null, .int (nZ 0), .int (nZ 0), .int (nZ 0), .int (nZ 0), .int (nZ 0), .int (nZ 0), .int (nZ 0)])), (q17, .inl (cI, 4, .inl (aZ zF))), (q25, .inl (cI, 48, .inl (aZ zF))), (q51, .inl (cI, 200, .inl (aZ zF))), (q59, .inl (cI, 120, .inl (aZ zF))), (q67, .inl (cI, 12, .inl (aZ zF))), (q75, .inl (cI, 12, .inl (aZ zF))), (q83, .inl (cI, 24, .inl (aZ zF))), (q91, .inl (cI, 24, .inl (aZ zF))), (q99, .inl (cI, 24, .inl (aZ zF))), (q107, .inl (cI, 24, .inl (aZ zF))), (q115, .inl (cI, 24, .inl (aZ zF))), (q123, .inl (cI, 24, .inl (aZ zF)))] H := hP
  have hD : va_D A [(h, .inr (10, [.int (nZ 6), .int (nZ 3), .ref q17, .ref q25, .int (nZ 100), .int (nZ 100), .int (nZ 0), .int (nZ 0), .int (nZ 5), .int (nZ 0), .ref q51, .int (nZ 0), .int (nZ 0), .long (lZ 0), .int (nZ 0), .int (nZ 0), .int (nZ 0), .int (nZ 0), .ref q59, .int (nZ 0), .ref q67, .ref q75, .int (nZ 0), .ref q83, .ref q91, .ref q99, .int (nZ 0), .ref q107, .ref q115, .ref q123, .int (nZ 0), .null, .null, .int (nZ 0), .int (nZ 0), .int (nZ 0), .int (nZ 0), .int (nZ 0), .int (nZ 0), .int (nZ 0)])), (q17, .inl (cI, 4, .inl (aZ zF))), (q25, .inl (cI, 48, .inl (aZ zF))), (q51, .inl (cI, 200, .inl (aZ zF))), (q59, .inl (cI, 120, .inl (aZ zF))), (q67, .inl (cI, 12, .inl (aZ zF))), (q75, .inl (cI, 12, .inl (aZ zF))), (q83, .inl (cI, 24, .inl (aZ zF))), (q91, .inl (cI, 24, .inl (aZ zF))), (q99, .inl (cI, 24, .inl (aZ zF))), (q107, .inl (cI, 24, .inl (aZ zF))), (q115, .inl (cI, 24, .inl (aZ zF))), (q123, .inl (cI, 24, .inl (aZ zF)))] := hD
  refine lv_aload_n hx hb dX10_init_128 rfl (lv_at hl 0 rfl) ?_
  refine lv_sipush (v := nZ 143) hx hb dX10_init_129 (by decide) ?_
  refine z_newJ (N := 143) hx hb (hts (.arrayClass .long) (List.mem_of_getElem? (i := 22) rfl)) hK hP hD hS hA 1 rfl rfl (Nat.le_of_ble_eq_true rfl) (Nat.le_of_ble_eq_true rfl) (Nat.le_of_ble_eq_true rfl) dX10_init_132 (fun q132 H hP hD hS => ?_)
  have hP : va_P D vwCl [(h, .inr (10, [.int (nZ 6), .int (nZ 3), .ref q17, .ref q25, .int (nZ 100), .int (nZ 100), .int (nZ 0), .int (nZ 0), .int (nZ 5), .int (nZ 0), .ref q51, .int (nZ 0), .int (nZ 0), .long (lZ 0), .int (nZ 0), .int (nZ 0), .int (nZ 0), .int (nZ 0), .ref q59, .int (nZ 0), .ref q67, .ref q75, .int (nZ 0), .ref q83, .ref q91, .ref q99, .int (nZ 0), .ref q107, .ref q115, .ref q123, .int (nZ 0), .null, .null, .int (nZ 0), .int (nZ 0), .int (nZ 0), .int (nZ 0), .int (nZ 0), .int (nZ 0), .int (nZ 0)])), (q17, .inl (cI, 4, .inl (aZ zF))), (q25, .inl (cI, 48, .inl (aZ zF))), (q51, .inl (cI, 200, .inl (aZ zF))), (q59, .inl (cI, 120, .inl (aZ zF))), (q67, .inl (cI, 12, .inl (aZ zF))), (q75, .inl (cI, 12, .inl (aZ zF))), (q83, .inl (cI, 24, .inl (aZ zF))), (q91, .inl (cI, 24, .inl (aZ zF))), (q99, .inl (cI, 24, .inl (aZ zF))), (q107, .inl (cI, 24, .inl (aZ zF))), (q115, .inl (cI, 24, .inl (aZ zF))), (q123, .inl (cI, 24, .inl (aZ zF))), (q132, .inl (cJ, 143, .inr (.inl (bZ zF))))] H := hP
  have hD : va_D A [(h, .inr (10, [.int (nZ 6), .int (nZ 3), .ref q17, .ref q25, .int (nZ 100), .int (nZ 100), .int (nZ 0), .int (nZ 0), .int (nZ 5), .int (nZ 0), .ref q51, .int (nZ 0), .int (nZ 0), .long (lZ 0), .int (nZ 0), .int (nZ 0), .int (nZ 0), .int (nZ 0), .ref q59, .int (nZ 0), .ref q67, .ref q75, .int (nZ 0), .ref q83, .ref q91, .ref q99, .int (nZ 0), .ref q107, .ref q115, .ref q123, .int (nZ 0), .null, .null, .int (nZ 0), .int (nZ 0), .int (nZ 0), .int (nZ 0), .int (nZ 0), .int (nZ 0), .int (nZ 0)])), (q17, .inl (cI, 4, .inl (aZ zF))), (q25, .inl (cI, 48, .inl (aZ zF))), (q51, .inl (cI, 200, .inl (aZ zF))), (q59, .inl (cI, 120, .inl (aZ zF))), (q67, .inl (cI, 12, .inl (aZ zF))), (q75, .inl (cI, 12, .inl (aZ zF))), (q83, .inl (cI, 24, .inl (aZ zF))), (q91, .inl (cI, 24, .inl (aZ zF))), (q99, .inl (cI, 24, .inl (aZ zF))), (q107, .inl (cI, 24, .inl (aZ zF))), (q115, .inl (cI, 24, .inl (aZ zF))), (q123, .inl (cI, 24, .inl (aZ zF))), (q132, .inl (cJ, 143, .inr (.inl (bZ zF))))] := hD
  refine va_putF (D := D) (ci := 10) (v := .ref q132) (ty := (.array .long)) (C := RX10) (T := TX10) (N := 40) hx hb hts iX10 tyX10 tyX10_ok nmX10 hown hK hP hD hS 0 rfl rfl 31 (by decide) (hts (.fieldLink RX10 62 "RainTargetModel" "makes" "[J") (List.mem_of_getElem? (i := 23) rfl)) (fun _ h9 => h9) rfl hin rfl (by decide +kernel) rfl rfl (Nat.le_of_ble_eq_true rfl) dX10_init_134 (fun H locs hP hD hS => ?_)
  have hP : va_P D vwCl [(h, .inr (10, [.int (nZ 6), .int (nZ 3), .ref q17, .ref q25, .int (nZ 100), .int (nZ 100), .int (nZ 0), .int (nZ 0), .int (nZ 5), .int (nZ 0), .ref q51, .int (nZ 0), .int (nZ 0), .long (lZ 0), .int (nZ 0), .int (nZ 0), .int (nZ 0), .int (nZ 0), .ref q59, .int (nZ 0), .ref q67, .ref q75, .int (nZ 0), .ref q83, .ref q91, .ref q99, .int (nZ 0), .ref q107, .ref q115, .ref q123, .int (nZ 0), .ref q132, .null, .int (nZ 0), .int (nZ 0), .int (nZ 0), .int (nZ 0), .int (nZ 0), .int (nZ 0), .int (nZ 0)])), (q17, .inl (cI, 4, .inl (aZ zF))), (q25, .inl (cI, 48, .inl (aZ zF))), (q51, .inl (cI, 200, .inl (aZ zF))), (q59, .inl (cI, 120, .inl (aZ zF))), (q67, .inl (cI, 12, .inl (aZ zF))), (q75, .inl (cI, 12, .inl (aZ zF))), (q83, .inl (cI, 24, .inl (aZ zF))), (q91, .inl (cI, 24, .inl (aZ zF))), (q99, .inl (cI, 24, .inl (aZ zF))), (q107, .inl (cI, 24, .inl (aZ zF))), (q115, .inl (cI, 24, .inl (aZ zF))), (q123, .inl (cI, 24, .inl (aZ zF))), (q132, .inl (cJ, 143, .inr (.inl (bZ zF))))] H := hP
  have hD : va_D A [(h, .inr (10, [.int (nZ 6), .int (nZ 3), .ref q17, .ref q25, .int (nZ 100), .int (nZ 100), .int (nZ 0), .int (nZ 0), .int (nZ 5), .int (nZ 0), .ref q51, .int (nZ 0), .int (nZ 0), .long (lZ 0), .int (nZ 0), .int (nZ 0), .int (nZ 0), .int (nZ 0), .ref q59, .int (nZ 0), .ref q67, .ref q75, .int (nZ 0), .ref q83, .ref q91, .ref q99, .int (nZ 0), .ref q107, .ref q115, .ref q123, .int (nZ 0), .ref q132, .null, .int (nZ 0), .int (nZ 0), .int (nZ 0), .int (nZ 0), .int (nZ 0), .int (nZ 0), .int (nZ 0)])), (q17, .inl (cI, 4, .inl (aZ zF))), (q25, .inl (cI, 48, .inl (aZ zF))), (q51, .inl (cI, 200, .inl (aZ zF))), (q59, .inl (cI, 120, .inl (aZ zF))), (q67, .inl (cI, 12, .inl (aZ zF))), (q75, .inl (cI, 12, .inl (aZ zF))), (q83, .inl (cI, 24, .inl (aZ zF))), (q91, .inl (cI, 24, .inl (aZ zF))), (q99, .inl (cI, 24, .inl (aZ zF))), (q107, .inl (cI, 24, .inl (aZ zF))), (q115, .inl (cI, 24, .inl (aZ zF))), (q123, .inl (cI, 24, .inl (aZ zF))), (q132, .inl (cJ, 143, .inr (.inl (bZ zF))))] := hD
  refine lv_aload_n hx hb dX10_init_137 rfl (lv_at hl 0 rfl) ?_
  refine lv_ldc (own := RX10) (v := 143000) hx hb hown (hts (.constant RX10 66 (143000)) (List.mem_of_getElem? (i := 24) rfl)) dX10_init_138 ?_
  refine z_lit 143000 (by decide) ?_
  refine z_newJ (N := 143000) hx hb (hts (.arrayClass .long) (List.mem_of_getElem? (i := 22) rfl)) hK hP hD hS hA 1 rfl rfl (Nat.le_of_ble_eq_true rfl) (Nat.le_of_ble_eq_true rfl) (Nat.le_of_ble_eq_true rfl) dX10_init_140 (fun q140 H hP hD hS => ?_)
  have hP : va_P D vwCl [(h, .inr (10, [.int (nZ 6), .int (nZ 3), .ref q17, .ref q25, .int (nZ 100), .int (nZ 100), .int (nZ 0), .int (nZ 0), .int (nZ 5), .int (nZ 0), .ref q51, .int (nZ 0), .int (nZ 0), .long (lZ 0), .int (nZ 0), .int (nZ 0), .int (nZ 0), .int (nZ 0), .ref q59, .int (nZ 0), .ref q67, .ref q75, .int (nZ 0), .ref q83, .ref q91, .ref q99, .int (nZ 0), .ref q107, .ref q115, .ref q123, .int (nZ 0), .ref q132, .null, .int (nZ 0), .int (nZ 0), .int (nZ 0), .int (nZ 0), .int (nZ 0), .int (nZ 0), .int (nZ 0)])), (q17, .inl (cI, 4, .inl (aZ zF))), (q25, .inl (cI, 48, .inl (aZ zF))), (q51, .inl (cI, 200, .inl (aZ zF))), (q59, .inl (cI, 120, .inl (aZ zF))), (q67, .inl (cI, 12, .inl (aZ zF))), (q75, .inl (cI, 12, .inl (aZ zF))), (q83, .inl (cI, 24, .inl (aZ zF))), (q91, .inl (cI, 24, .inl (aZ zF))), (q99, .inl (cI, 24, .inl (aZ zF))), (q107, .inl (cI, 24, .inl (aZ zF))), (q115, .inl (cI, 24, .inl (aZ zF))), (q123, .inl (cI, 24, .inl (aZ zF))), (q132, .inl (cJ, 143, .inr (.inl (bZ zF)))), (q140, .inl (cJ, 143000, .inr (.inl (bZ zF))))] H := hP
  have hD : va_D A [(h, .inr (10, [.int (nZ 6), .int (nZ 3), .ref q17, .ref q25, .int (nZ 100), .int (nZ 100), .int (nZ 0), .int (nZ 0), .int (nZ 5), .int (nZ 0), .ref q51, .int (nZ 0), .int (nZ 0), .long (lZ 0), .int (nZ 0), .int (nZ 0), .int (nZ 0), .int (nZ 0), .ref q59, .int (nZ 0), .ref q67, .ref q75, .int (nZ 0), .ref q83, .ref q91, .ref q99, .int (nZ 0), .ref q107, .ref q115, .ref q123, .int (nZ 0), .ref q132, .null, .int (nZ 0), .int (nZ 0), .int (nZ 0), .int (nZ 0), .int (nZ 0), .int (nZ 0), .int (nZ 0)])), (q17, .inl (cI, 4, .inl (aZ zF))), (q25, .inl (cI, 48, .inl (aZ zF))), (q51, .inl (cI, 200, .inl (aZ zF))), (q59, .inl (cI, 120, .inl (aZ zF))), (q67, .inl (cI, 12, .inl (aZ zF))), (q75, .inl (cI, 12, .inl (aZ zF))), (q83, .inl (cI, 24, .inl (aZ zF))), (q91, .inl (cI, 24, .inl (aZ zF))), (q99, .inl (cI, 24, .inl (aZ zF))), (q107, .inl (cI, 24, .inl (aZ zF))), (q115, .inl (cI, 24, .inl (aZ zF))), (q123, .inl (cI, 24, .inl (aZ zF))), (q132, .inl (cJ, 143, .inr (.inl (bZ zF)))), (q140, .inl (cJ, 143000, .inr (.inl (bZ zF))))] := hD
  refine va_putF (D := D) (ci := 10) (v := .ref q140) (ty := (.array .long)) (C := RX10) (T := TX10) (N := 40) hx hb hts iX10 tyX10 tyX10_ok nmX10 hown hK hP hD hS 0 rfl rfl 32 (by decide) (hts (.fieldLink RX10 67 "RainTargetModel" "wins" "[J") (List.mem_of_getElem? (i := 25) rfl)) (fun _ h9 => h9) rfl hin rfl (by decide +kernel) rfl rfl (Nat.le_of_ble_eq_true rfl) dX10_init_142 (fun H locs hP hD hS => ?_)
  have hP : va_P D vwCl [(h, .inr (10, [.int (nZ 6), .int (nZ 3), .ref q17, .ref q25, .int (nZ 100), .int (nZ 100), .int (nZ 0), .int (nZ 0), .int (nZ 5), .int (nZ 0), .ref q51, .int (nZ 0), .int (nZ 0), .long (lZ 0), .int (nZ 0), .int (nZ 0), .int (nZ 0), .int (nZ 0), .ref q59, .int (nZ 0), .ref q67, .ref q75, .int (nZ 0), .ref q83, .ref q91, .ref q99, .int (nZ 0), .ref q107, .ref q115, .ref q123, .int (nZ 0), .ref q132, .ref q140, .int (nZ 0), .int (nZ 0), .int (nZ 0), .int (nZ 0), .int (nZ 0), .int (nZ 0), .int (nZ 0)])), (q17, .inl (cI, 4, .inl (aZ zF))), (q25, .inl (cI, 48, .inl (aZ zF))), (q51, .inl (cI, 200, .inl (aZ zF))), (q59, .inl (cI, 120, .inl (aZ zF))), (q67, .inl (cI, 12, .inl (aZ zF))), (q75, .inl (cI, 12, .inl (aZ zF))), (q83, .inl (cI, 24, .inl (aZ zF))), (q91, .inl (cI, 24, .inl (aZ zF))), (q99, .inl (cI, 24, .inl (aZ zF))), (q107, .inl (cI, 24, .inl (aZ zF))), (q115, .inl (cI, 24, .inl (aZ zF))), (q123, .inl (cI, 24, .inl (aZ zF))), (q132, .inl (cJ, 143, .inr (.inl (bZ zF)))), (q140, .inl (cJ, 143000, .inr (.inl (bZ zF))))] H := hP
  have hD : va_D A [(h, .inr (10, [.int (nZ 6), .int (nZ 3), .ref q17, .ref q25, .int (nZ 100), .int (nZ 100), .int (nZ 0), .int (nZ 0), .int (nZ 5), .int (nZ 0), .ref q51, .int (nZ 0), .int (nZ 0), .long (lZ 0), .int (nZ 0), .int (nZ 0), .int (nZ 0), .int (nZ 0), .ref q59, .int (nZ 0), .ref q67, .ref q75, .int (nZ 0), .ref q83, .ref q91, .ref q99, .int (nZ 0), .ref q107, .ref q115, .ref q123, .int (nZ 0), .ref q132, .ref q140, .int (nZ 0), .int (nZ 0), .int (nZ 0), .int (nZ 0), .int (nZ 0), .int (nZ 0), .int (nZ 0)])), (q17, .inl (cI, 4, .inl (aZ zF))), (q25, .inl (cI, 48, .inl (aZ zF))), (q51, .inl (cI, 200, .inl (aZ zF))), (q59, .inl (cI, 120, .inl (aZ zF))), (q67, .inl (cI, 12, .inl (aZ zF))), (q75, .inl (cI, 12, .inl (aZ zF))), (q83, .inl (cI, 24, .inl (aZ zF))), (q91, .inl (cI, 24, .inl (aZ zF))), (q99, .inl (cI, 24, .inl (aZ zF))), (q107, .inl (cI, 24, .inl (aZ zF))), (q115, .inl (cI, 24, .inl (aZ zF))), (q123, .inl (cI, 24, .inl (aZ zF))), (q132, .inl (cJ, 143, .inr (.inl (bZ zF)))), (q140, .inl (cJ, 143000, .inr (.inl (bZ zF))))] := hD
  refine lv_aload_n hx hb dX10_init_145 rfl (lv_at hl 0 rfl) ?_
  refine va_get (D := D) (ci := 10) (v := .ref q17) (C := RX10) (T := TX10) (N := 40) hx hb hts iX10 hown hK hP 0 rfl rfl 2 (by decide) (hts (.fieldLink RX10 16 "RainTargetModel" "cases" "[I") (List.mem_of_getElem? (i := 7) rfl)) (fun _ h9 => h9) rfl dX10_init_146 ?_
  refine lv_iconst (v := nZ 0) hx hb dX10_init_149 rfl ?_
  refine lv_iconst (v := nZ 1) hx hb dX10_init_150 rfl ?_
  refine z_iast hx hb hK hP hD hS 1 0 rfl rfl (by omega) (by omega) (by omega) dX10_init_151 (fun H locs hP hD hS => ?_)
  have hP : va_P D vwCl [(h, .inr (10, [.int (nZ 6), .int (nZ 3), .ref q17, .ref q25, .int (nZ 100), .int (nZ 100), .int (nZ 0), .int (nZ 0), .int (nZ 5), .int (nZ 0), .ref q51, .int (nZ 0), .int (nZ 0), .long (lZ 0), .int (nZ 0), .int (nZ 0), .int (nZ 0), .int (nZ 0), .ref q59, .int (nZ 0), .ref q67, .ref q75, .int (nZ 0), .ref q83, .ref q91, .ref q99, .int (nZ 0), .ref q107, .ref q115, .ref q123, .int (nZ 0), .ref q132, .ref q140, .int (nZ 0), .int (nZ 0), .int (nZ 0), .int (nZ 0), .int (nZ 0), .int (nZ 0), .int (nZ 0)])), (q17, .inl (cI, 4, .inl (aZ (uZ zF 0 1)))), (q25, .inl (cI, 48, .inl (aZ zF))), (q51, .inl (cI, 200, .inl (aZ zF))), (q59, .inl (cI, 120, .inl (aZ zF))), (q67, .inl (cI, 12, .inl (aZ zF))), (q75, .inl (cI, 12, .inl (aZ zF))), (q83, .inl (cI, 24, .inl (aZ zF))), (q91, .inl (cI, 24, .inl (aZ zF))), (q99, .inl (cI, 24, .inl (aZ zF))), (q107, .inl (cI, 24, .inl (aZ zF))), (q115, .inl (cI, 24, .inl (aZ zF))), (q123, .inl (cI, 24, .inl (aZ zF))), (q132, .inl (cJ, 143, .inr (.inl (bZ zF)))), (q140, .inl (cJ, 143000, .inr (.inl (bZ zF))))] H := hP
  have hD : va_D A [(h, .inr (10, [.int (nZ 6), .int (nZ 3), .ref q17, .ref q25, .int (nZ 100), .int (nZ 100), .int (nZ 0), .int (nZ 0), .int (nZ 5), .int (nZ 0), .ref q51, .int (nZ 0), .int (nZ 0), .long (lZ 0), .int (nZ 0), .int (nZ 0), .int (nZ 0), .int (nZ 0), .ref q59, .int (nZ 0), .ref q67, .ref q75, .int (nZ 0), .ref q83, .ref q91, .ref q99, .int (nZ 0), .ref q107, .ref q115, .ref q123, .int (nZ 0), .ref q132, .ref q140, .int (nZ 0), .int (nZ 0), .int (nZ 0), .int (nZ 0), .int (nZ 0), .int (nZ 0), .int (nZ 0)])), (q17, .inl (cI, 4, .inl (aZ (uZ zF 0 1)))), (q25, .inl (cI, 48, .inl (aZ zF))), (q51, .inl (cI, 200, .inl (aZ zF))), (q59, .inl (cI, 120, .inl (aZ zF))), (q67, .inl (cI, 12, .inl (aZ zF))), (q75, .inl (cI, 12, .inl (aZ zF))), (q83, .inl (cI, 24, .inl (aZ zF))), (q91, .inl (cI, 24, .inl (aZ zF))), (q99, .inl (cI, 24, .inl (aZ zF))), (q107, .inl (cI, 24, .inl (aZ zF))), (q115, .inl (cI, 24, .inl (aZ zF))), (q123, .inl (cI, 24, .inl (aZ zF))), (q132, .inl (cJ, 143, .inr (.inl (bZ zF)))), (q140, .inl (cJ, 143000, .inr (.inl (bZ zF))))] := hD
  refine lv_aload_n hx hb dX10_init_152 rfl (lv_at hl 0 rfl) ?_
  refine va_get (D := D) (ci := 10) (v := .ref q25) (C := RX10) (T := TX10) (N := 40) hx hb hts iX10 hown hK hP 0 rfl rfl 3 (by decide) (hts (.fieldLink RX10 20 "RainTargetModel" "mood" "[I") (List.mem_of_getElem? (i := 8) rfl)) (fun _ h9 => h9) rfl dX10_init_153 ?_
  refine lv_iconst (v := nZ 0) hx hb dX10_init_156 rfl ?_
  refine lv_iconst (v := nZ 4) hx hb dX10_init_157 rfl ?_
  refine z_iast hx hb hK hP hD hS 2 0 rfl rfl (by omega) (by omega) (by omega) dX10_init_158 (fun H locs hP hD hS => ?_)
  have hP : va_P D vwCl [(h, .inr (10, [.int (nZ 6), .int (nZ 3), .ref q17, .ref q25, .int (nZ 100), .int (nZ 100), .int (nZ 0), .int (nZ 0), .int (nZ 5), .int (nZ 0), .ref q51, .int (nZ 0), .int (nZ 0), .long (lZ 0), .int (nZ 0), .int (nZ 0), .int (nZ 0), .int (nZ 0), .ref q59, .int (nZ 0), .ref q67, .ref q75, .int (nZ 0), .ref q83, .ref q91, .ref q99, .int (nZ 0), .ref q107, .ref q115, .ref q123, .int (nZ 0), .ref q132, .ref q140, .int (nZ 0), .int (nZ 0), .int (nZ 0), .int (nZ 0), .int (nZ 0), .int (nZ 0), .int (nZ 0)])), (q17, .inl (cI, 4, .inl (aZ (uZ zF 0 1)))), (q25, .inl (cI, 48, .inl (aZ (uZ zF 0 4)))), (q51, .inl (cI, 200, .inl (aZ zF))), (q59, .inl (cI, 120, .inl (aZ zF))), (q67, .inl (cI, 12, .inl (aZ zF))), (q75, .inl (cI, 12, .inl (aZ zF))), (q83, .inl (cI, 24, .inl (aZ zF))), (q91, .inl (cI, 24, .inl (aZ zF))), (q99, .inl (cI, 24, .inl (aZ zF))), (q107, .inl (cI, 24, .inl (aZ zF))), (q115, .inl (cI, 24, .inl (aZ zF))), (q123, .inl (cI, 24, .inl (aZ zF))), (q132, .inl (cJ, 143, .inr (.inl (bZ zF)))), (q140, .inl (cJ, 143000, .inr (.inl (bZ zF))))] H := hP
  have hD : va_D A [(h, .inr (10, [.int (nZ 6), .int (nZ 3), .ref q17, .ref q25, .int (nZ 100), .int (nZ 100), .int (nZ 0), .int (nZ 0), .int (nZ 5), .int (nZ 0), .ref q51, .int (nZ 0), .int (nZ 0), .long (lZ 0), .int (nZ 0), .int (nZ 0), .int (nZ 0), .int (nZ 0), .ref q59, .int (nZ 0), .ref q67, .ref q75, .int (nZ 0), .ref q83, .ref q91, .ref q99, .int (nZ 0), .ref q107, .ref q115, .ref q123, .int (nZ 0), .ref q132, .ref q140, .int (nZ 0), .int (nZ 0), .int (nZ 0), .int (nZ 0), .int (nZ 0), .int (nZ 0), .int (nZ 0)])), (q17, .inl (cI, 4, .inl (aZ (uZ zF 0 1)))), (q25, .inl (cI, 48, .inl (aZ (uZ zF 0 4)))), (q51, .inl (cI, 200, .inl (aZ zF))), (q59, .inl (cI, 120, .inl (aZ zF))), (q67, .inl (cI, 12, .inl (aZ zF))), (q75, .inl (cI, 12, .inl (aZ zF))), (q83, .inl (cI, 24, .inl (aZ zF))), (q91, .inl (cI, 24, .inl (aZ zF))), (q99, .inl (cI, 24, .inl (aZ zF))), (q107, .inl (cI, 24, .inl (aZ zF))), (q115, .inl (cI, 24, .inl (aZ zF))), (q123, .inl (cI, 24, .inl (aZ zF))), (q132, .inl (cJ, 143, .inr (.inl (bZ zF)))), (q140, .inl (cJ, 143000, .inr (.inl (bZ zF))))] := hD
  refine lv_aload_n hx hb dX10_init_159 rfl (lv_at hl 0 rfl) ?_
  refine va_get (D := D) (ci := 10) (v := .ref q25) (C := RX10) (T := TX10) (N := 40) hx hb hts iX10 hown hK hP 0 rfl rfl 3 (by decide) (hts (.fieldLink RX10 20 "RainTargetModel" "mood" "[I") (List.mem_of_getElem? (i := 8) rfl)) (fun _ h9 => h9) rfl dX10_init_160 ?_
  refine lv_iconst (v := nZ 2) hx hb dX10_init_163 rfl ?_
  refine lv_bipush (v := nZ 10) hx hb dX10_init_164 (by decide) ?_
  refine z_iast hx hb hK hP hD hS 2 0 rfl rfl (by omega) (by omega) (by omega) dX10_init_166 (fun H locs hP hD hS => ?_)
  have hP : va_P D vwCl [(h, .inr (10, [.int (nZ 6), .int (nZ 3), .ref q17, .ref q25, .int (nZ 100), .int (nZ 100), .int (nZ 0), .int (nZ 0), .int (nZ 5), .int (nZ 0), .ref q51, .int (nZ 0), .int (nZ 0), .long (lZ 0), .int (nZ 0), .int (nZ 0), .int (nZ 0), .int (nZ 0), .ref q59, .int (nZ 0), .ref q67, .ref q75, .int (nZ 0), .ref q83, .ref q91, .ref q99, .int (nZ 0), .ref q107, .ref q115, .ref q123, .int (nZ 0), .ref q132, .ref q140, .int (nZ 0), .int (nZ 0), .int (nZ 0), .int (nZ 0), .int (nZ 0), .int (nZ 0), .int (nZ 0)])), (q17, .inl (cI, 4, .inl (aZ (uZ zF 0 1)))), (q25, .inl (cI, 48, .inl (aZ (uZ (uZ zF 0 4) 2 10)))), (q51, .inl (cI, 200, .inl (aZ zF))), (q59, .inl (cI, 120, .inl (aZ zF))), (q67, .inl (cI, 12, .inl (aZ zF))), (q75, .inl (cI, 12, .inl (aZ zF))), (q83, .inl (cI, 24, .inl (aZ zF))), (q91, .inl (cI, 24, .inl (aZ zF))), (q99, .inl (cI, 24, .inl (aZ zF))), (q107, .inl (cI, 24, .inl (aZ zF))), (q115, .inl (cI, 24, .inl (aZ zF))), (q123, .inl (cI, 24, .inl (aZ zF))), (q132, .inl (cJ, 143, .inr (.inl (bZ zF)))), (q140, .inl (cJ, 143000, .inr (.inl (bZ zF))))] H := hP
  have hD : va_D A [(h, .inr (10, [.int (nZ 6), .int (nZ 3), .ref q17, .ref q25, .int (nZ 100), .int (nZ 100), .int (nZ 0), .int (nZ 0), .int (nZ 5), .int (nZ 0), .ref q51, .int (nZ 0), .int (nZ 0), .long (lZ 0), .int (nZ 0), .int (nZ 0), .int (nZ 0), .int (nZ 0), .ref q59, .int (nZ 0), .ref q67, .ref q75, .int (nZ 0), .ref q83, .ref q91, .ref q99, .int (nZ 0), .ref q107, .ref q115, .ref q123, .int (nZ 0), .ref q132, .ref q140, .int (nZ 0), .int (nZ 0), .int (nZ 0), .int (nZ 0), .int (nZ 0), .int (nZ 0), .int (nZ 0)])), (q17, .inl (cI, 4, .inl (aZ (uZ zF 0 1)))), (q25, .inl (cI, 48, .inl (aZ (uZ (uZ zF 0 4) 2 10)))), (q51, .inl (cI, 200, .inl (aZ zF))), (q59, .inl (cI, 120, .inl (aZ zF))), (q67, .inl (cI, 12, .inl (aZ zF))), (q75, .inl (cI, 12, .inl (aZ zF))), (q83, .inl (cI, 24, .inl (aZ zF))), (q91, .inl (cI, 24, .inl (aZ zF))), (q99, .inl (cI, 24, .inl (aZ zF))), (q107, .inl (cI, 24, .inl (aZ zF))), (q115, .inl (cI, 24, .inl (aZ zF))), (q123, .inl (cI, 24, .inl (aZ zF))), (q132, .inl (cJ, 143, .inr (.inl (bZ zF)))), (q140, .inl (cJ, 143000, .inr (.inl (bZ zF))))] := hD
  have hP9 := hP.sub (ws' := [(h, .inr (10, [.int (nZ 6), .int (nZ 3), .ref q17, .ref q25, .int (nZ 100), .int (nZ 100), .int (nZ 0), .int (nZ 0), .int (nZ 5), .int (nZ 0), .ref q51, .int (nZ 0), .int (nZ 0), .long (lZ 0), .int (nZ 0), .int (nZ 0), .int (nZ 0), .int (nZ 0), .ref q59, .int (nZ 0), .ref q67, .ref q75, .int (nZ 0), .ref q83, .ref q91, .ref q99, .int (nZ 0), .ref q107, .ref q115, .ref q123, .int (nZ 0), .ref q132, .ref q140, .int (nZ 0), .int (nZ 0), .int (nZ 0), .int (nZ 0), .int (nZ 0), .int (nZ 0), .int (nZ 0)])), (q17, .inl (cI, 4, .inl (aZ (uZ zF 0 1)))), (q25, .inl (cI, 48, .inl (aZ (uZ (uZ zF 0 4) 2 10)))), (q51, .inl (cI, 200, .inl (aZ zF))), (q59, .inl (cI, 120, .inl (aZ zF))), (q67, .inl (cI, 12, .inl (aZ zF))), (q75, .inl (cI, 12, .inl (aZ zF))), (q83, .inl (cI, 24, .inl (aZ zF))), (q91, .inl (cI, 24, .inl (aZ zF))), (q99, .inl (cI, 24, .inl (aZ zF))), (q107, .inl (cI, 24, .inl (aZ zF))), (q115, .inl (cI, 24, .inl (aZ zF))), (q123, .inl (cI, 24, .inl (aZ zF))), (q132, .inl (cJ, 143, .inr (.inl (bZ zF)))), (q140, .inl (cJ, 143000, .inr (.inl (bZ zF))))]) [0, 1, 2, 3, 4, 5, 6, 7, 8, 9, 10, 11, 12, 13, 14] rfl
  have hD9 := hD.sub (ws' := [(h, .inr (10, [.int (nZ 6), .int (nZ 3), .ref q17, .ref q25, .int (nZ 100), .int (nZ 100), .int (nZ 0), .int (nZ 0), .int (nZ 5), .int (nZ 0), .ref q51, .int (nZ 0), .int (nZ 0), .long (lZ 0), .int (nZ 0), .int (nZ 0), .int (nZ 0), .int (nZ 0), .ref q59, .int (nZ 0), .ref q67, .ref q75, .int (nZ 0), .ref q83, .ref q91, .ref q99, .int (nZ 0), .ref q107, .ref q115, .ref q123, .int (nZ 0), .ref q132, .ref q140, .int (nZ 0), .int (nZ 0), .int (nZ 0), .int (nZ 0), .int (nZ 0), .int (nZ 0), .int (nZ 0)])), (q17, .inl (cI, 4, .inl (aZ (uZ zF 0 1)))), (q25, .inl (cI, 48, .inl (aZ (uZ (uZ zF 0 4) 2 10)))), (q51, .inl (cI, 200, .inl (aZ zF))), (q59, .inl (cI, 120, .inl (aZ zF))), (q67, .inl (cI, 12, .inl (aZ zF))), (q75, .inl (cI, 12, .inl (aZ zF))), (q83, .inl (cI, 24, .inl (aZ zF))), (q91, .inl (cI, 24, .inl (aZ zF))), (q99, .inl (cI, 24, .inl (aZ zF))), (q107, .inl (cI, 24, .inl (aZ zF))), (q115, .inl (cI, 24, .inl (aZ zF))), (q123, .inl (cI, 24, .inl (aZ zF))), (q132, .inl (cJ, 143, .inr (.inl (bZ zF)))), (q140, .inl (cJ, 143000, .inr (.inl (bZ zF))))]) [0, 1, 2, 3, 4, 5, 6, 7, 8, 9, 10, 11, 12, 13, 14] (by decide) rfl
  have hq9 : ([(h, .inr (10, [.int (nZ 6), .int (nZ 3), .ref q17, .ref q25, .int (nZ 100), .int (nZ 100), .int (nZ 0), .int (nZ 0), .int (nZ 5), .int (nZ 0), .ref q51, .int (nZ 0), .int (nZ 0), .long (lZ 0), .int (nZ 0), .int (nZ 0), .int (nZ 0), .int (nZ 0), .ref q59, .int (nZ 0), .ref q67, .ref q75, .int (nZ 0), .ref q83, .ref q91, .ref q99, .int (nZ 0), .ref q107, .ref q115, .ref q123, .int (nZ 0), .ref q132, .ref q140, .int (nZ 0), .int (nZ 0), .int (nZ 0), .int (nZ 0), .int (nZ 0), .int (nZ 0), .int (nZ 0)])), (q17, .inl (cI, 4, .inl (aZ (uZ zF 0 1)))), (q25, .inl (cI, 48, .inl (aZ (uZ (uZ zF 0 4) 2 10)))), (q51, .inl (cI, 200, .inl (aZ zF))), (q59, .inl (cI, 120, .inl (aZ zF))), (q67, .inl (cI, 12, .inl (aZ zF))), (q75, .inl (cI, 12, .inl (aZ zF))), (q83, .inl (cI, 24, .inl (aZ zF))), (q91, .inl (cI, 24, .inl (aZ zF))), (q99, .inl (cI, 24, .inl (aZ zF))), (q107, .inl (cI, 24, .inl (aZ zF))), (q115, .inl (cI, 24, .inl (aZ zF))), (q123, .inl (cI, 24, .inl (aZ zF))), (q132, .inl (cJ, 143, .inr (.inl (bZ zF)))), (q140, .inl (cJ, 143000, .inr (.inl (bZ zF))))] : va_W) = [(h, .inr (10, [.int (nZ 6), .int (nZ 3), .ref q17, .ref q25, .int (nZ 100), .int (nZ 100), .int (nZ 0), .int (nZ 0), .int (nZ 5), .int (nZ 0), .ref q51, .int (nZ 0), .int (nZ 0), .long (lZ 0), .int (nZ 0), .int (nZ 0), .int (nZ 0), .int (nZ 0), .ref q59, .int (nZ 0), .ref q67, .ref q75, .int (nZ 0), .ref q83, .ref q91, .ref q99, .int (nZ 0), .ref q107, .ref q115, .ref q123, .int (nZ 0), .ref q132, .ref q140, .int (nZ 0), .int (nZ 0), .int (nZ 0), .int (nZ 0), .int (nZ 0), .int (nZ 0), .int (nZ 0)])), (q17, .inl (cI, 4, .inl (aZ cs0))), (q25, .inl (cI, 48, .inl (aZ mp0))), (q51, .inl (cI, 200, .inl (aZ zF))), (q59, .inl (cI, 120, .inl (aZ zF))), (q67, .inl (cI, 12, .inl (aZ zF))), (q75, .inl (cI, 12, .inl (aZ zF))), (q83, .inl (cI, 24, .inl (aZ zF))), (q91, .inl (cI, 24, .inl (aZ zF))), (q99, .inl (cI, 24, .inl (aZ zF))), (q107, .inl (cI, 24, .inl (aZ zF))), (q115, .inl (cI, 24, .inl (aZ zF))), (q123, .inl (cI, 24, .inl (aZ zF))), (q132, .inl (cJ, 143, .inr (.inl (bZ zF)))), (q140, .inl (cJ, 143000, .inr (.inl (bZ zF))))] := by rw [mp0_m]; rfl
  rw [hq9] at hP9 hD9
  refine W.widen (k := 14) (n := 143683) (by omega) (by omega) ?_
  exact W.vret hx hb hr (fun t9 ht9 _ => ⟨⟨((q17), (q25), (q51), (q59), (q67), (q75), (q83), (q91), (q99), (q107), (q115), (q123), (q132), (q140)), rfl, trivial, ⟨by rw [ht9]; exact hP9, hD9⟩⟩, hS.F ht9⟩) hS.2.2 dX10_init_167

