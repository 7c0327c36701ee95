/-! ===== String constants ===== -/
def scL : List Nat := [5, 3, 4, 3, 5, 4]
def scB : List (List Int32) := [[111, 118, 101, 114, 115], [109, 101, 110], [109, 111, 111, 100], [112, 97, 114], [99, 108, 111, 117, 100], [108, 105, 110, 101]]
def scW : List (List Int) := [[111, 118, 101, 114, 115], [109, 101, 110], [109, 111, 111, 100], [112, 97, 114], [99, 108, 111, 117, 100], [108, 105, 110, 101]]
def scN (i : Nat) : Int := ((scL.getD i 0 : Nat) : Int)
def scC (i : Nat) (k : Int) : Int := (scW.getD i []).getD k.toNat 0
theorem sc_in {i : Nat} {k : Int} (h : k < scN i) : k < ((scL.getD i 0 : Nat) : Int) := h
theorem sc_6 {i : Nat} (h : i < 6) : i = 0 ∨ i = 1 ∨ i = 2 ∨ i = 3 ∨ i = 4 ∨ i = 5 := by omega
theorem sc_31 {i : Nat} (h : i < 6) : scL.getD i 0 < 2147483648 := by rcases sc_6 h with rfl | rfl | rfl | rfl | rfl | rfl <;> decide
theorem scN_bd {i : Nat} (h : i < 6) : 1 ≤ scN i ∧ scN i ≤ 5 := by rcases sc_6 h with rfl | rfl | rfl | rfl | rfl | rfl <;> decide
theorem sc_k : ∀ i, i < 6 → ∀ j, j < scL.getD i 0 → ((scB.getD i []).getD j 0 = nZ ((scW.getD i []).getD j 0) ∧ (((nZ ((scW.getD i []).getD j 0) &&& nZ 255).toUInt32 % 65536).toInt32 = nZ ((scW.getD i []).getD j 0) ∧ (97 ≤ (scW.getD i []).getD j 0 ∧ (scW.getD i []).getD j 0 ≤ 122))) := by decide +kernel
theorem sc_at {i : Nat} {k : Int} (h : i < 6) (h0 : 0 ≤ k) (h1 : k < scN i) : (scB.getD i []).getD (nZ k).toNatClampNeg 0 = nZ (scC i k) := by
  have b := scN_bd h
  rw [nZ_cl ⟨by omega, by omega⟩]
  unfold scN at h1
  exact (sc_k i h k.toNat (by omega)).1
theorem sq_c2 {i : Nat} {k : Int} (h : i < 6) (h0 : 0 ≤ k) (h1 : k < scN i) : ((nZ (scC i k) &&& nZ 255).toUInt32 % 65536).toInt32 = nZ (scC i k) := by
  unfold scN at h1
  exact (sc_k i h k.toNat (by omega)).2.1
theorem scC_bd {i : Nat} {k : Int} (h : i < 6) (h0 : 0 ≤ k) (h1 : k < scN i) : 97 ≤ scC i k ∧ scC i k ≤ 122 := by
  unfold scN at h1
  exact (sc_k i h k.toNat (by omega)).2.2
theorem sq_nar : ∀ j : Nat, j < 123 → narrow .char (.int (nZ (j : Int))) = .int (nZ (j : Int)) := by decide +kernel
theorem sc_nr {x : Int} (h0 : 97 ≤ x) (h1 : x ≤ 122) : narrow .char (.int (nZ x)) = .int (nZ x) := by
  have h := sq_nar x.toNat (by omega)
  rw [show ((x.toNat : Nat) : Int) = x by omega] at h
  exact h
theorem nZ_shr0 {x : Int} : nZ x >>> (nZ 0 &&& 31) = nZ x := by
  have h : nZ 0 &&& 31 = 0 := by decide
  rw [h]; exact Int32.shiftRight_zero
section ZS
variable {p : Program} {l : Launch} {e : Env} {R : Room} {s : State} {m : MethodId} {args : Array Value} {below : List Frame} {meth : Method} {c : Code} {H : Heap} {locs : List Loc} {cells slots : Nat} {Q : State → Prop} {cc : ByteArray} {pc : Nat} {ls : Array Slot} {rest : List Value}
theorem z_ishr0 (hexec : p.tables.exec = Jvm.exec) (hb : c.code = cc) {x : Int} (hdg : decode cc pc = .ok (.ishr, 1)) (k : W p l e R s m args below meth c H locs cells slots Q (F0 m (pc + 1) ls (.int (nZ x) :: rest))) : W p l e R s m args below meth c H locs cells slots Q (F0 m pc ls (.int (nZ 0) :: .int (nZ x) :: rest)) := lv_ishr hexec hb hdg (by rw [nZ_shr0]; exact k)
end ZS
/-- the String constants, and what their methods read -/
def STR (aK aV : Nat → Nat) (A : Nat → Prop) (U : State) : Prop := vk_S 6 scL scB aK aV A U U.heap ∧ va_Z "java/lang/String" "COMPACT_STRINGS" "Z" (.int 1) A U U.heap ∧ va_Zq "jdk/internal/util/Preconditions" "SIOOBE_FORMATTER" "Ljava/util/function/BiFunction;" A U U.heap ∧ vk_R RX4 76 "overs" (aK 0) U ∧ vk_R RX4 82 "men" (aK 1) U ∧ vk_R RX4 84 "mood" (aK 2) U ∧ vk_R RX4 86 "par" (aK 3) U ∧ vk_R RX4 88 "cloud" (aK 4) U ∧ vk_R RX4 90 "line" (aK 5) U
theorem STR.blind {aK aV : Nat → Nat} {A : Nat → Prop} {U : State} (g : JFrame) (mk : MethodId) (a : Array Value) (h : STR aK aV A U) : STR aK aV A (U.calling g mk a) := by
  obtain ⟨h1, h2, h3, r0, r1, r2, r3, r4, r5⟩ := h
  exact ⟨vk_S.moved (u := U) (U := U.calling g mk a) (Vm.Alike.refl U.vm) h1, va_Z.moved (u := U) (U := U.calling g mk a) (Vm.Alike.refl U.vm) h2, va_Zq.moved (u := U) (U := U.calling g mk a) (Vm.Alike.refl U.vm) h3, vk_R.same (u := U) (U := U.calling g mk a) rfl r0, vk_R.same (u := U) (U := U.calling g mk a) rfl r1, vk_R.same (u := U) (U := U.calling g mk a) rfl r2, vk_R.same (u := U) (U := U.calling g mk a) rfl r3, vk_R.same (u := U) (U := U.calling g mk a) rfl r4, vk_R.same (u := U) (U := U.calling g mk a) rfl r5⟩
theorem STR.call {aK aV : Nat → Nat} {A A1 : Nat → Prop} {s U : State} {H : Heap} {locs : List Loc} (h : STR aK aV A s) (hS : va_S A s.heap H locs) (hU : U.heap = H) (hW : s.WarmedH U.vm) (hAA : ∀ q, A1 q → A q) : STR aK aV A1 U := by
  obtain ⟨h1, h2, h3, r0, r1, r2, r3, r4, r5⟩ := h
  refine ⟨?_, ?_, ?_, r0.warm hW, r1.warm hW, r2.warm hW, r3.warm hW, r4.warm hW, r5.warm hW⟩
  · rw [hU]; exact ((h1.kept hS.2.1).moved hW.alike).narrow hAA
  · rw [hU]; exact ((h2.kept hS.2.1).moved hW.alike).narrow hAA
  · rw [hU]; exact ((h3.kept hS.2.1).moved hW.alike).narrow hAA
def RoS (D : va_G) (cI cJ : ClassId) (tn : Nat) (aK aV : Nat → Nat) (ws : va_W) (U : State) : Prop := RoP D cI cJ tn ws U ∧ STR aK aV (fun _ => False) U
def WrS (D : va_G) (cI cJ : ClassId) (tn : Nat) (aK aV : Nat → Nat) (ws : va_W) (sz : Nat) (U : State) : Prop := WrP D cI cJ tn ws sz U ∧ STR aK aV (va_A ws sz) U
theorem RoS.blind {D : va_G} {cI cJ : ClassId} {tn : Nat} {aK aV : Nat → Nat} {ws : va_W} {av : List Value} : FrameBlind (va_Pc av (RoS D cI cJ tn aK aV ws)) := fun a U g mk h => ⟨h.1, (RoP.blind (av := av) a U g mk ⟨h.1, h.2.1⟩).2, STR.blind g mk a h.2.2⟩
theorem WrS.blind {D : va_G} {cI cJ : ClassId} {tn sz : Nat} {aK aV : Nat → Nat} {ws : va_W} {av : List Value} : FrameBlind (va_Pc av (WrS D cI cJ tn aK aV ws sz)) := fun a U g mk h => ⟨h.1, (WrP.blind (av := av) a U g mk ⟨h.1, h.2.1⟩).2, STR.blind g mk a h.2.2⟩
theorem RoS.call {D : va_G} {cI cJ : ClassId} {tn : Nat} {aK aV : Nat → Nat} {A : Nat → Prop} {s U : State} {H : Heap} {locs : List Loc} {ws : va_W} (h : EV D cI cJ tn A s) (hZ : STR aK aV A s) (hS : va_S A s.heap H locs) (hP : va_P D vwCl ws H) (hU : U.heap = H) (hW : s.WarmedH U.vm) : RoS D cI cJ tn aK aV ws U := ⟨RoP.call h hS hP hU hW, hZ.call hS hU hW (fun _ f => f.elim)⟩
theorem WrS.call {D : va_G} {cI cJ : ClassId} {tn : Nat} {aK aV : Nat → Nat} {A A2 : Nat → Prop} {s U : State} {H : Heap} {locs : List Loc} {ws : va_W} (h : EV D cI cJ tn A s) (hZ : STR aK aV A s) (hS : va_S A s.heap H locs) (hP : va_P D vwCl ws H) (hD : va_D A2 ws) (hF : ∀ q, va_A ws H.size q → A q) (hU : U.heap = H) (hW : s.WarmedH U.vm) : WrS D cI cJ tn aK aV ws H.size U := ⟨WrP.call h hS hP hD hF hU hW, hZ.call hS hU hW hF⟩
/-- a token spells a word -/
def spF (g : Int → Int) (s e : Int) (i : Nat) : Int := if e - s = scN i ∧ ∀ k : Nat, k < scL.getD i 0 → g (s + (k : Int)) = scC i (k : Int) then 1 else 0
theorem spF_1 {g : Int → Int} {s e : Int} {i : Nat} (h : e - s = scN i) (h2 : ∀ k : Int, 0 ≤ k → k < scN i → g (s + k) = scC i k) : spF g s e i = 1 := by
  unfold spF; rw [if_pos ⟨h, fun k hk => h2 (k : Int) (by omega) (by unfold scN; omega)⟩]
theorem spF_n {g : Int → Int} {s e : Int} {i : Nat} (h : ¬ e - s = scN i) : spF g s e i = 0 := by
  unfold spF; rw [if_neg (fun q => h q.1)]
theorem spF_0 {g : Int → Int} {s e : Int} {i : Nat} {k : Int} (h0 : 0 ≤ k) (h1 : k < scN i) (h : ¬ g (s + k) = scC i k) : spF g s e i = 0 := by
  unfold spF; rw [if_neg]
  rintro ⟨_, q⟩
  unfold scN at h1
  have z := q k.toNat (by omega)
  rw [show ((k.toNat : Nat) : Int) = k by omega] at z
  exact h z
theorem spF_bd (g : Int → Int) (s e : Int) (i : Nat) : spF g s e i = 0 ∨ spF g s e i = 1 := by
  unfold spF; split
  · exact Or.inr rfl
  · exact Or.inl rfl
/-- which word a token spells -/
def lnF (g : Int → Int) (s e : Int) : Int := if spF g s e 0 = 1 then 0 else if spF g s e 1 = 1 then 1 else if spF g s e 2 = 1 then 2 else if spF g s e 3 = 1 then 3 else if spF g s e 4 = 1 then 4 else if spF g s e 5 = 1 then 5 else -1
theorem lnF_bd (g : Int → Int) (s e : Int) : -1 ≤ lnF g s e ∧ lnF g s e ≤ 5 := by unfold lnF; (repeat' split) <;> omega
set_option maxHeartbeats 4000000 in
set_option maxRecDepth 100000 in
theorem c_J0_coder_7d493 (l : Launch) (D : va_G) (cI cJ : ClassId) (tn : Nat) (aK aV : Nat → Nat) (wi : Nat) (hwi : wi < 6)  : Met l yJ0_coder_7d493 wsJ0_coder_7d493 ({ frames := 0, cells := 0, slots := 0, locals := 0 } : Room) (va_Pc [.ref (aK wi)] (RoS D cI cJ tn aK aV [])) (vp_Si (fun r9 : Int32 => r9 = nZ 0)) 0 0 (fun _ => False) := by
  refine Met.ofW (cc := cJ0_coder_7d493) (maxL := 1) (ret := (some .byte)) (by decide) rfl ?_
  intro p e s m args below meth c s₁ B hml hv
  obtain ⟨rfl, ⟨hE, hP⟩, hZ⟩ := hv
  have hx := B.exec
  have hb := B.bytes
  have hr := B.returns
  have hts := atoms_spec (ws := wsJ0_coder_7d493) B.pre
  have hown : s.vm.findClass RJ0 = some m.cls := findClass_of_methodNamed B.named
  have hlocks := B.notSynchronized
  have hS : va_S (fun _ => False) s.heap s.heap [] := va_S.rf
  have hK := hE.1
  have hN := hE.2.1
  have hl := lv_entry ([.ref (aK wi)]) (n := 1) (Nat.le_of_ble_eq_true rfl)
  rw [lg_entry_eq]
  generalize (lg_sl ([.ref (aK wi)]) ++ List.replicate (1 - (lg_sl ([.ref (aK wi)])).length) Slot.unset).toArray = ls at hl ⊢
  have hl : lv_has ls 1 [(0, .ref (aK wi))] := hl
  refine va_gets (v := .int (nZ 1)) hx hb hZ.2.1 hS hown (hts (.fieldLink RJ0 38 "java/lang/String" "COMPACT_STRINGS" "Z") (List.mem_of_getElem? (i := 1) rfl)) (fun _ h9 => h9) dJ0_coder_7d493_0 ?_
  refine z_if_eq (tgt := 13) hx hb dJ0_coder_7d493_3 (by decide) (by decide) (fun c_3 => ?_) (fun c_3 => ?_)
  · exact absurd c_3 (by decide)
  · refine lv_aload_n hx hb dJ0_coder_7d493_6 rfl (lv_at hl 0 rfl) ?_
    refine vk_getf (v := .int (nZ 0)) hx hb (hZ.1.1 wi hwi).2.1 hS hown (hts (.fieldLink RJ0 15 "java/lang/String" "coder" "B") (List.mem_of_getElem? (i := 2) rfl)) (fun _ h9 => h9) dJ0_coder_7d493_7 ?_
    refine lv_goto (tgt := 14) hx hb dJ0_coder_7d493_10 (by decide) ?_
    exact W.zret (v := nZ 0) hx hb hr (by decide) (fun t9 ht9 _ => ⟨nZ 0, rfl, congrArg nZ (show (0 : Int) = 0 from (by first | rfl | omega | (split <;> omega) | (simp_all; done))), ht9⟩) (fun _ h => by cases h) dJ0_coder_7d493_14

set_option maxHeartbeats 4000000 in
set_option maxRecDepth 100000 in
theorem c_J0_isLatin1_aae02 (l : Launch) (D : va_G) (cI cJ : ClassId) (tn : Nat) (aK aV : Nat → Nat) (wi : Nat) (hwi : wi < 6)  : Met l yJ0_isLatin1_aae02 wsJ0_isLatin1_aae02 ({ frames := 0, cells := 0, slots := 0, locals := 0 } : Room) (va_Pc [.ref (aK wi)] (RoS D cI cJ tn aK aV [])) (vp_Si (fun r9 : Int32 => r9 = nZ 1)) 0 0 (fun _ => False) := by
  refine Met.ofW (cc := cJ0_isLatin1_aae02) (maxL := 1) (ret := (some .boolean)) (by decide) rfl ?_
  intro p e s m args below meth c s₁ B hml hv
  obtain ⟨rfl, ⟨hE, hP⟩, hZ⟩ := hv
  have hx := B.exec
  have hb := B.bytes
  have hr := B.returns
  have hts := atoms_spec (ws := wsJ0_isLatin1_aae02) B.pre
  have hown : s.vm.findClass RJ0 = some m.cls := findClass_of_methodNamed B.named
  have hlocks := B.notSynchronized
  have hS : va_S (fun _ => False) s.heap s.heap [] := va_S.rf
  have hK := hE.1
  have hN := hE.2.1
  have hl := lv_entry ([.ref (aK wi)]) (n := 1) (Nat.le_of_ble_eq_true rfl)
  rw [lg_entry_eq]
  generalize (lg_sl ([.ref (aK wi)]) ++ List.replicate (1 - (lg_sl ([.ref (aK wi)])).length) Slot.unset).toArray = ls at hl ⊢
  have hl : lv_has ls 1 [(0, .ref (aK wi))] := hl
  refine va_gets (v := .int (nZ 1)) hx hb hZ.2.1 hS hown (hts (.fieldLink RJ0 38 "java/lang/String" "COMPACT_STRINGS" "Z") (List.mem_of_getElem? (i := 1) rfl)) (fun _ h9 => h9) dJ0_isLatin1_aae02_0 ?_
  refine z_if_eq (tgt := 17) hx hb dJ0_isLatin1_aae02_3 (by decide) (by decide) (fun c_3 => ?_) (fun c_3 => ?_)
  · exact absurd c_3 (by decide)
  · refine lv_aload_n hx hb dJ0_isLatin1_aae02_6 rfl (lv_at hl 0 rfl) ?_
    refine vk_getf (v := .int (nZ 0)) hx hb (hZ.1.1 wi hwi).2.1 hS hown (hts (.fieldLink RJ0 15 "java/lang/String" "coder" "B") (List.mem_of_getElem? (i := 2) rfl)) (fun _ h9 => h9) dJ0_isLatin1_aae02_7 ?_
    refine z_if_ne (tgt := 17) hx hb dJ0_isLatin1_aae02_10 (by decide) (by decide) (fun c_10 => ?_) (fun c_10 => ?_)
    · exact absurd rfl c_10
    · refine lv_iconst (v := nZ 1) hx hb dJ0_isLatin1_aae02_13 rfl ?_
      refine lv_goto (tgt := 18) hx hb dJ0_isLatin1_aae02_14 (by decide) ?_
      exact W.zret (v := nZ 1) hx hb hr (z_bool (show (1 : Int) = 0 ∨ (1 : Int) = 1 from by omega)) (fun t9 ht9 _ => ⟨nZ 1, rfl, congrArg nZ (show (1 : Int) = 1 from (by first | rfl | omega | (split <;> omega) | (simp_all; done))), ht9⟩) (fun _ h => by cases h) dJ0_isLatin1_aae02_18

set_option maxHeartbeats 4000000 in
set_option maxRecDepth 100000 in
theorem c_J0_length_8abf5 (l : Launch) (D : va_G) (cI cJ : ClassId) (tn : Nat) (aK aV : Nat → Nat) (wi : Nat) (hwi : wi < 6)  : Met l yJ0_length_8abf5 wsJ0_length_8abf5 ({ frames := 1, cells := 0, slots := 0, locals := 20 } : Room) (va_Pc [.ref (aK wi)] (RoS D cI cJ tn aK aV [])) (vp_Si (fun r9 : Int32 => r9 = nZ (scN wi))) 0 0 (fun _ => False) := by
  refine Met.ofW (cc := cJ0_length_8abf5) (maxL := 1) (ret := (some .int)) (by decide) rfl ?_
  intro p e s m args below meth c s₁ B hml hv
  obtain ⟨rfl, ⟨hE, hP⟩, hZ⟩ := hv
  have hx := B.exec
  have hb := B.bytes
  have hr := B.returns
  have hts := atoms_spec (ws := wsJ0_length_8abf5) B.pre
  have hown : s.vm.findClass RJ0 = some m.cls := findClass_of_methodNamed B.named
  have hlocks := B.notSynchronized
  have hS : va_S (fun _ => False) s.heap s.heap [] := va_S.rf
  have hK := hE.1
  have hN := hE.2.1
  have hl := lv_entry ([.ref (aK wi)]) (n := 1) (Nat.le_of_ble_eq_true rfl)
  rw [lg_entry_eq]
  generalize (lg_sl ([.ref (aK wi)]) ++ List.replicate (1 - (lg_sl ([.ref (aK wi)])).length) Slot.unset).toArray = ls at hl ⊢
  have hl : lv_has ls 1 [(0, .ref (aK wi))] := hl
  refine lv_aload_n hx hb dJ0_length_8abf5_0 rfl (lv_at hl 0 rfl) ?_
  refine vk_getf (v := .ref (aV wi)) hx hb (hZ.1.1 wi hwi).2.2.1 hS hown (hts (.fieldLink RJ0 9 "java/lang/String" "value" "[B") (List.mem_of_getElem? (i := 1) rfl)) (fun _ h9 => h9) dJ0_length_8abf5_1 ?_
  refine va_tlen (v := nZ (scN wi)) hx hb (hZ.1.1 wi hwi).2.2.2 hS (nZ_nat _) dJ0_length_8abf5_4 ?_
  refine lv_aload_n hx hb dJ0_length_8abf5_5 rfl (lv_at hl 0 rfl) ?_
  refine vp_callSi ((va_runV (As := []) (rest := [.int (nZ (scN wi))]) ⟨hx, hb, hml, hown, hts⟩ (c_J0_coder_7d493 l D cI cJ tn aK aV wi hwi ) (cwV 0 hts gJ0_length_8abf5_J0_coder_7d493 rfl rfl rfl (by decide +kernel) ⟨Nat.le_of_ble_eq_true rfl, Nat.le_of_ble_eq_true rfl⟩) ⟨RoS.blind, vk_recv hZ.1 hwi hS, fun U hU hW => ⟨rfl, RoS.call hE hZ hS (hP.sub (ws' := []) [] rfl) hU hW⟩⟩ rfl rfl hl.1 rfl (lv_room (Nat.le_of_ble_eq_true rfl)) dJ0_length_8abf5_6 ⟨Nat.le_of_ble_eq_true rfl, Nat.le_of_ble_eq_true rfl⟩).run) (fun r6 hr6 => ?_)
  subst hr6
  refine z_ishr0 hx hb dJ0_length_8abf5_9 ?_
  exact W.iret (v := nZ (scN wi)) hx hb hr (fun t9 ht9 _ => ⟨nZ (scN wi), rfl, congrArg nZ (show (scN wi : Int) = scN wi from (by first | rfl | omega | (split <;> omega) | (simp_all; done))), ht9⟩) (fun _ h => by cases h) dJ0_length_8abf5_10

set_option maxHeartbeats 4000000 in
set_option maxRecDepth 100000 in
theorem c_J3_ciN (l : Launch) (D : va_G) (cI cJ : ClassId) (tn : Nat) (a : Int) (b : Int) (ha0 : 0 ≤ a) (hab : a < b) (hb9 : b ≤ 2147483647)  : Met l yJ3_checkIndex_8e157 wsJ3_checkIndex_8e157 ({ frames := 0, cells := 0, slots := 0, locals := 0 } : Room) (va_Pc [.int (nZ a), .int (nZ b), .null] (RoP D cI cJ tn [])) (vp_Si (fun r9 : Int32 => r9 = nZ a)) 0 0 (fun _ => False) := by
  refine Met.ofW (cc := cJ3_checkIndex_8e157) (maxL := 3) (ret := (some .int)) (by decide) rfl ?_
  intro p e s m args below meth c s₁ B hml hv
  obtain ⟨rfl, hE, hP⟩ := hv
  have hx := B.exec
  have hb := B.bytes
  have hr := B.returns
  have hts := atoms_spec (ws := wsJ3_checkIndex_8e157) B.pre
  have hown : s.vm.findClass RJ3 = some m.cls := findClass_of_methodNamed B.named
  have hlocks := B.notSynchronized
  have hS : va_S (fun _ => False) s.heap s.heap [] := va_S.rf
  have hK := hE.1
  have hN := hE.2.1
  have hl := lv_entry ([.int (nZ a), .int (nZ b), .null]) (n := 3) (Nat.le_of_ble_eq_true rfl)
  rw [lg_entry_eq]
  generalize (lg_sl ([.int (nZ a), .int (nZ b), .null]) ++ List.replicate (3 - (lg_sl ([.int (nZ a), .int (nZ b), .null])).length) Slot.unset).toArray = ls at hl ⊢
  have hl : lv_has ls 3 [(0, .int (nZ a)), (1, .int (nZ b)), (2, .null)] := hl
  refine lv_iload_n hx hb dJ3_checkIndex_8e157_0 rfl (lv_at hl 0 rfl) ?_
  refine z_if_lt (tgt := 9) hx hb dJ3_checkIndex_8e157_1 (by decide) (by omega) (fun c_1 => ?_) (fun c_1 => ?_)
  · exact absurd c_1 (by omega)
  · refine lv_iload_n hx hb dJ3_checkIndex_8e157_4 rfl (lv_at hl 0 rfl) ?_
    refine lv_iload_n hx hb dJ3_checkIndex_8e157_5 rfl (lv_at hl 1 rfl) ?_
    refine z_icmp_lt (tgt := 16) hx hb dJ3_checkIndex_8e157_6 (by decide) (by omega) (by omega) (fun c_6 => ?_) (fun c_6 => ?_)
    · refine lv_iload_n hx hb dJ3_checkIndex_8e157_16 rfl (lv_at hl 0 rfl) ?_
      exact W.iret (v := nZ a) hx hb hr (fun t9 ht9 _ => ⟨nZ a, rfl, congrArg nZ (show (a : Int) = a from (by first | rfl | omega | (split <;> omega) | (simp_all; done))), ht9⟩) (fun _ h => by cases h) dJ3_checkIndex_8e157_17
    · exact absurd c_6 (by omega)

set_option maxHeartbeats 4000000 in
set_option maxRecDepth 100000 in
theorem c_J3_ciR (l : Launch) (D : va_G) (cI cJ : ClassId) (tn : Nat) (a : Int) (b : Int) (fr : Nat) (ha0 : 0 ≤ a) (hab : a < b) (hb9 : b ≤ 2147483647)  : Met l yJ3_checkIndex_8e157 wsJ3_checkIndex_8e157 ({ frames := 0, cells := 0, slots := 0, locals := 0 } : Room) (va_Pc [.int (nZ a), .int (nZ b), .ref fr] (RoP D cI cJ tn [])) (vp_Si (fun r9 : Int32 => r9 = nZ a)) 0 0 (fun _ => False) := by
  refine Met.ofW (cc := cJ3_checkIndex_8e157) (maxL := 3) (ret := (some .int)) (by decide) rfl ?_
  intro p e s m args below meth c s₁ B hml hv
  obtain ⟨rfl, hE, hP⟩ := hv
  have hx := B.exec
  have hb := B.bytes
  have hr := B.returns
  have hts := atoms_spec (ws := wsJ3_checkIndex_8e157) B.pre
  have hown : s.vm.findClass RJ3 = some m.cls := findClass_of_methodNamed B.named
  have hlocks := B.notSynchronized
  have hS : va_S (fun _ => False) s.heap s.heap [] := va_S.rf
  have hK := hE.1
  have hN := hE.2.1
  have hl := lv_entry ([.int (nZ a), .int (nZ b), .ref fr]) (n := 3) (Nat.le_of_ble_eq_true rfl)
  rw [lg_entry_eq]
  generalize (lg_sl ([.int (nZ a), .int (nZ b), .ref fr]) ++ List.replicate (3 - (lg_sl ([.int (nZ a), .int (nZ b), .ref fr])).length) Slot.unset).toArray = ls at hl ⊢
  have hl : lv_has ls 3 [(0, .int (nZ a)), (1, .int (nZ b)), (2, .ref fr)] := hl
  refine lv_iload_n hx hb dJ3_checkIndex_8e157_0 rfl (lv_at hl 0 rfl) ?_
  refine z_if_lt (tgt := 9) hx hb dJ3_checkIndex_8e157_1 (by decide) (by omega) (fun c_1 => ?_) (fun c_1 => ?_)
  · exact absurd c_1 (by omega)
  · refine lv_iload_n hx hb dJ3_checkIndex_8e157_4 rfl (lv_at hl 0 rfl) ?_
    refine lv_iload_n hx hb dJ3_checkIndex_8e157_5 rfl (lv_at hl 1 rfl) ?_
    refine z_icmp_lt (tgt := 16) hx hb dJ3_checkIndex_8e157_6 (by decide) (by omega) (by omega) (fun c_6 => ?_) (fun c_6 => ?_)
    · refine lv_iload_n hx hb dJ3_checkIndex_8e157_16 rfl (lv_at hl 0 rfl) ?_
      exact W.iret (v := nZ a) hx hb hr (fun t9 ht9 _ => ⟨nZ a, rfl, congrArg nZ (show (a : Int) = a from (by first | rfl | omega | (split <;> omega) | (simp_all; done))), ht9⟩) (fun _ h => by cases h) dJ3_checkIndex_8e157_17
    · exact absurd c_6 (by omega)

set_option maxHeartbeats 4000000 in
set_option maxRecDepth 100000 in
theorem c_J0_checkIndex_df160 (l : Launch) (D : va_G) (cI cJ : ClassId) (tn : Nat) (aK aV : Nat → Nat) (a : Int) (b : Int) (ha0 : 0 ≤ a) (hab : a < b) (hb9 : b ≤ 2147483647)  : Met l yJ0_checkIndex_df160 wsJ0_checkIndex_df160 ({ frames := 1, cells := 0, slots := 0, locals := 22 } : Room) (va_Pc [.int (nZ a), .int (nZ b)] (RoS D cI cJ tn aK aV [])) (va_Sv (fun _ => True)) 0 0 (fun _ => False) := by
  refine Met.ofW (cc := cJ0_checkIndex_df160) (maxL := 2) (ret := none) (by decide) rfl ?_
  intro p e s m args below meth c s₁ B hml hv
  obtain ⟨rfl, ⟨hE, hP⟩, hZ⟩ := hv
  have hx := B.exec
  have hb := B.bytes
  have hr := B.returns
  have hts := atoms_spec (ws := wsJ0_checkIndex_df160) B.pre
  have hown : s.vm.findClass RJ0 = some m.cls := findClass_of_methodNamed B.named
  have hlocks := B.notSynchronized
  have hS : va_S (fun _ => False) s.heap s.heap [] := va_S.rf
  have hK := hE.1
  have hN := hE.2.1
  have hl := lv_entry ([.int (nZ a), .int (nZ b)]) (n := 2) (Nat.le_of_ble_eq_true rfl)
  rw [lg_entry_eq]
  generalize (lg_sl ([.int (nZ a), .int (nZ b)]) ++ List.replicate (2 - (lg_sl ([.int (nZ a), .int (nZ b)])).length) Slot.unset).toArray = ls at hl ⊢
  have hl : lv_has ls 2 [(0, .int (nZ a)), (1, .int (nZ b))] := hl
  rcases hZ.2.2.1 with hfz | ⟨fr, hfz⟩
  · have hfk := True.intro
    refine lv_iload_n hx hb dJ0_checkIndex_df160_0 rfl (lv_at hl 0 rfl) ?_
    refine lv_iload_n hx hb dJ0_checkIndex_df160_1 rfl (lv_at hl 1 rfl) ?_
    refine va_gets hx hb hfz hS hown (hts (.fieldLink RJ0 1053 "jdk/internal/util/Preconditions" "SIOOBE_FORMATTER" "Ljava/util/function/BiFunction;") (List.mem_of_getElem? (i := 1) rfl)) (fun _ h9 => h9) dJ0_checkIndex_df160_2 ?_
    refine vp_callSi ((va_runS (As := [.int (nZ a), .int (nZ b), .null]) (rest := []) ⟨hx, hb, hml, hown, hts⟩ (c_J3_ciN l D cI cJ tn a b ha0 hab hb9 ) (va_cwS 3 hts gJ0_checkIndex_df160_J3_checkIndex_8e157 rfl rfl rfl (by decide +kernel) ⟨Nat.le_of_ble_eq_true rfl, Nat.le_of_ble_eq_true rfl⟩) ⟨RoP.blind, fun U hU hW => ⟨rfl, RoP.call hE hS (hP.sub (ws' := []) [] rfl) hU hW⟩⟩ rfl rfl hl.1 rfl (lv_room (Nat.le_of_ble_eq_true rfl)) dJ0_checkIndex_df160_5 ⟨Nat.le_of_ble_eq_true rfl, Nat.le_of_ble_eq_true rfl⟩).run) (fun r5 hr5 => ?_)
    subst hr5
    refine lv_pop hx hb dJ0_checkIndex_df160_8 rfl ?_
    exact W.vret hx hb hr (fun t9 ht9 _ => ⟨rfl, trivial, ht9⟩) (fun _ h => by cases h) dJ0_checkIndex_df160_9
  · have hfk := True.intro
    refine lv_iload_n hx hb dJ0_checkIndex_df160_0 rfl (lv_at hl 0 rfl) ?_
    refine lv_iload_n hx hb dJ0_checkIndex_df160_1 rfl (lv_at hl 1 rfl) ?_
    refine va_gets hx hb hfz hS hown (hts (.fieldLink RJ0 1053 "jdk/internal/util/Preconditions" "SIOOBE_FORMATTER" "Ljava/util/function/BiFunction;") (List.mem_of_getElem? (i := 1) rfl)) (fun _ h9 => h9) dJ0_checkIndex_df160_2 ?_
    refine vp_callSi ((va_runS (As := [.int (nZ a), .int (nZ b), .ref fr]) (rest := []) ⟨hx, hb, hml, hown, hts⟩ (c_J3_ciR l D cI cJ tn a b fr ha0 hab hb9 ) (va_cwS 3 hts gJ0_checkIndex_df160_J3_checkIndex_8e157 rfl rfl rfl (by decide +kernel) ⟨Nat.le_of_ble_eq_true rfl, Nat.le_of_ble_eq_true rfl⟩) ⟨RoP.blind, fun U hU hW => ⟨rfl, RoP.call hE hS (hP.sub (ws' := []) [] rfl) hU hW⟩⟩ rfl rfl hl.1 rfl (lv_room (Nat.le_of_ble_eq_true rfl)) dJ0_checkIndex_df160_5 ⟨Nat.le_of_ble_eq_true rfl, Nat.le_of_ble_eq_true rfl⟩).run) (fun r5 hr5 => ?_)
    subst hr5
    refine lv_pop hx hb dJ0_checkIndex_df160_8 rfl ?_
    exact W.vret hx hb hr (fun t9 ht9 _ => ⟨rfl, trivial, ht9⟩) (fun _ h => by cases h) dJ0_checkIndex_df160_9

set_option maxHeartbeats 4000000 in
set_option maxRecDepth 100000 in
theorem c_J1_charAt_3b067 (l : Launch) (D : va_G) (cI cJ : ClassId) (tn : Nat) (aK aV : Nat → Nat) (wi : Nat) (a : Int) (hwi : wi < 6) (ha0 : 0 ≤ a) (ha1 : a < scN wi)  : Met l yJ1_charAt_3b067 wsJ1_charAt_3b067 ({ frames := 2, cells := 0, slots := 0, locals := 43 } : Room) (va_Pc [.ref (aV wi), .int (nZ a)] (RoS D cI cJ tn aK aV [])) (vp_Si (fun r9 : Int32 => r9 = nZ (scC wi a))) 0 0 (fun _ => False) := by
  refine Met.ofW (cc := cJ1_charAt_3b067) (maxL := 2) (ret := (some .char)) (by decide) rfl ?_
  intro p e s m args below meth c s₁ B hml hv
  obtain ⟨rfl, ⟨hE, hP⟩, hZ⟩ := hv
  have hx := B.exec
  have hb := B.bytes
  have hr := B.returns
  have hts := atoms_spec (ws := wsJ1_charAt_3b067) B.pre
  have hown : s.vm.findClass RJ1 = some m.cls := findClass_of_methodNamed B.named
  have hlocks := B.notSynchronized
  have hS : va_S (fun _ => False) s.heap s.heap [] := va_S.rf
  have hK := hE.1
  have hN := hE.2.1
  have hl := lv_entry ([.ref (aV wi), .int (nZ a)]) (n := 2) (Nat.le_of_ble_eq_true rfl)
  rw [lg_entry_eq]
  generalize (lg_sl ([.ref (aV wi), .int (nZ a)]) ++ List.replicate (2 - (lg_sl ([.ref (aV wi), .int (nZ a)])).length) Slot.unset).toArray = ls at hl ⊢
  have hl : lv_has ls 2 [(0, .ref (aV wi)), (1, .int (nZ a))] := hl
  have hsn := scN_bd hwi
  have hcb := scC_bd hwi ha0 ha1
  refine lv_iload_n hx hb dJ1_charAt_3b067_0 rfl (lv_at hl 1 rfl) ?_
  refine lv_aload_n hx hb dJ1_charAt_3b067_1 rfl (lv_at hl 0 rfl) ?_
  refine va_tlen (v := nZ (scN wi)) hx hb (hZ.1.1 wi hwi).2.2.2 hS (nZ_nat _) dJ1_charAt_3b067_2 ?_
  refine va_csv ((va_runS (As := [.int (nZ a), .int (nZ (scN wi))]) (rest := []) ⟨hx, hb, hml, hown, hts⟩ (c_J0_checkIndex_df160 l D cI cJ tn aK aV a (scN wi) ha0 (by first | assumption | omega) (by first | assumption | omega) ) (va_cwS 2 hts gJ1_charAt_3b067_J0_checkIndex_df160 rfl rfl rfl (by decide +kernel) ⟨Nat.le_of_ble_eq_true rfl, Nat.le_of_ble_eq_true rfl⟩) ⟨RoS.blind, fun U hU hW => ⟨rfl, RoS.call hE hZ hS (hP.sub (ws' := []) [] rfl) hU hW⟩⟩ rfl rfl hl.1 rfl (lv_room (Nat.le_of_ble_eq_true rfl)) dJ1_charAt_3b067_3 ⟨Nat.le_of_ble_eq_true rfl, Nat.le_of_ble_eq_true rfl⟩).run) (fun _ => ?_)
  refine lv_aload_n hx hb dJ1_charAt_3b067_6 rfl (lv_at hl 0 rfl) ?_
  refine lv_iload_n hx hb dJ1_charAt_3b067_7 rfl (lv_at hl 1 rfl) ?_
  refine va_tb (v := .int (nZ (scC wi a))) hx hb (hZ.1.1 wi hwi).2.2.2 hS (nZ_in (by omega) (sc_in (by omega)) (sc_31 hwi)) (congrArg Value.int (sc_at hwi (by omega) (by omega))) dJ1_charAt_3b067_8 ?_
  refine lv_sipush (v := nZ 255) hx hb dJ1_charAt_3b067_9 (by decide) ?_
  refine lv_iand hx hb dJ1_charAt_3b067_12 ?_
  refine lv_i2c (v := nZ (scC wi a)) hx hb dJ1_charAt_3b067_13 (sq_c2 hwi ha0 ha1) ?_
  exact W.zret (v := nZ (scC wi a)) hx hb hr (sc_nr (scC_bd hwi ha0 ha1).1 (scC_bd hwi ha0 ha1).2) (fun t9 ht9 _ => ⟨nZ (scC wi a), rfl, congrArg nZ (show (scC wi a : Int) = scC wi a from (by first | rfl | omega | (split <;> omega) | (simp_all; done))), ht9⟩) (fun _ h => by cases h) dJ1_charAt_3b067_14

set_option maxHeartbeats 4000000 in
set_option maxRecDepth 100000 in
theorem c_J0_charAt_5068e (l : Launch) (D : va_G) (cI cJ : ClassId) (tn : Nat) (aK aV : Nat → Nat) (wi : Nat) (a : Int) (hwi : wi < 6) (ha0 : 0 ≤ a) (ha1 : a < scN wi)  : Met l yJ0_charAt_5068e wsJ0_charAt_5068e ({ frames := 3, cells := 0, slots := 0, locals := 64 } : Room) (va_Pc [.ref (aK wi), .int (nZ a)] (RoS D cI cJ tn aK aV [])) (vp_Si (fun r9 : Int32 => r9 = nZ (scC wi a))) 0 0 (fun _ => False) := by
  refine Met.ofW (cc := cJ0_charAt_5068e) (maxL := 2) (ret := (some .char)) (by decide) rfl ?_
  intro p e s m args below meth c s₁ B hml hv
  obtain ⟨rfl, ⟨hE, hP⟩, hZ⟩ := hv
  have hx := B.exec
  have hb := B.bytes
  have hr := B.returns
  have hts := atoms_spec (ws := wsJ0_charAt_5068e) B.pre
  have hown : s.vm.findClass RJ0 = some m.cls := findClass_of_methodNamed B.named
  have hlocks := B.notSynchronized
  have hS : va_S (fun _ => False) s.heap s.heap [] := va_S.rf
  have hK := hE.1
  have hN := hE.2.1
  have hl := lv_entry ([.ref (aK wi), .int (nZ a)]) (n := 2) (Nat.le_of_ble_eq_true rfl)
  rw [lg_entry_eq]
  generalize (lg_sl ([.ref (aK wi), .int (nZ a)]) ++ List.replicate (2 - (lg_sl ([.ref (aK wi), .int (nZ a)])).length) Slot.unset).toArray = ls at hl ⊢
  have hl : lv_has ls 2 [(0, .ref (aK wi)), (1, .int (nZ a))] := hl
  refine lv_aload_n hx hb dJ0_charAt_5068e_0 rfl (lv_at hl 0 rfl) ?_
  refine vp_callSi ((va_runV (As := []) (rest := []) ⟨hx, hb, hml, hown, hts⟩ (c_J0_isLatin1_aae02 l D cI cJ tn aK aV wi hwi ) (cwV 0 hts gJ0_charAt_5068e_J0_isLatin1_aae02 rfl rfl rfl (by decide +kernel) ⟨Nat.le_of_ble_eq_true rfl, Nat.le_of_ble_eq_true rfl⟩) ⟨RoS.blind, vk_recv hZ.1 hwi hS, fun U hU hW => ⟨rfl, RoS.call hE hZ hS (hP.sub (ws' := []) [] rfl) hU hW⟩⟩ rfl rfl hl.1 rfl (lv_room (Nat.le_of_ble_eq_true rfl)) dJ0_charAt_5068e_1 ⟨Nat.le_of_ble_eq_true rfl, Nat.le_of_ble_eq_true rfl⟩).run) (fun r1 hr1 => ?_)
  subst hr1
  refine z_if_eq (tgt := 16) hx hb dJ0_charAt_5068e_4 (by decide) (by decide) (fun c_4 => ?_) (fun c_4 => ?_)
  · exact absurd c_4 (by omega)
  · refine lv_aload_n hx hb dJ0_charAt_5068e_7 rfl (lv_at hl 0 rfl) ?_
    refine vk_getf (v := .ref (aV wi)) hx hb (hZ.1.1 wi hwi).2.2.1 hS hown (hts (.fieldLink RJ0 9 "java/lang/String" "value" "[B") (List.mem_of_getElem? (i := 1) rfl)) (fun _ h9 => h9) dJ0_charAt_5068e_8 ?_
    refine lv_iload_n hx hb dJ0_charAt_5068e_11 rfl (lv_at hl 1 rfl) ?_
    refine vp_callSi ((va_runS (As := [.ref (aV wi), .int (nZ a)]) (rest := []) ⟨hx, hb, hml, hown, hts⟩ (c_J1_charAt_3b067 l D cI cJ tn aK aV wi a hwi ha0 ha1 ) (va_cwS 2 hts gJ0_charAt_5068e_J1_charAt_3b067 rfl rfl rfl (by decide +kernel) ⟨Nat.le_of_ble_eq_true rfl, Nat.le_of_ble_eq_true rfl⟩) ⟨RoS.blind, fun U hU hW => ⟨rfl, RoS.call hE hZ hS (hP.sub (ws' := []) [] rfl) hU hW⟩⟩ rfl rfl hl.1 rfl (lv_room (Nat.le_of_ble_eq_true rfl)) dJ0_charAt_5068e_12 ⟨Nat.le_of_ble_eq_true rfl, Nat.le_of_ble_eq_true rfl⟩).run) (fun r12 hr12 => ?_)
    subst hr12
    exact W.zret (v := nZ (scC wi a)) hx hb hr (sc_nr (scC_bd hwi ha0 ha1).1 (scC_bd hwi ha0 ha1).2) (fun t9 ht9 _ => ⟨nZ (scC wi a), rfl, congrArg nZ (show (scC wi a : Int) = scC wi a from (by first | rfl | omega | (split <;> omega) | (simp_all; done))), ht9⟩) (fun _ h => by cases h) dJ0_charAt_5068e_15

set_option maxHeartbeats 4000000 in
set_option maxRecDepth 100000 in
theorem c_X4_spells (l : Launch) (D : va_G) (cI cJ : ClassId) (tn : Nat) (aK aV : Nat → Nat) (rdr : Nat) (t : Nat) (wq : Nat) (nq : Nat) (tq : Nat) (tx : Int → Int) (len : Int) (li : Int) (kd : Int) (st : Int) (en : Int) (wi : Nat) (hwi : wi < 6) (hl0 : 0 ≤ len) (hl1 : len ≤ 200) (hgb : ∀ k, 0 ≤ tx k ∧ tx k ≤ 255) (hs0 : 0 ≤ st) (hse : st ≤ en) (hel : en ≤ len)  : Met l yX4_spells wsX4_spells ({ frames := 4, cells := 0, slots := 0, locals := 85 } : Room) (va_Pc [.ref rdr, .ref (aK wi)] (RoS D cI cJ tn aK aV [(rdr, .inr (4, [.ref t, .ref wq, .ref nq, .int (nZ li), .int (nZ kd), .int (nZ st), .int (nZ en)])), (t, .inr (7, [.ref tq, .int (nZ len)])), (tq, .inl (cI, 200, .inl (aZ tx)))])) (vp_Si (fun r9 : Int32 => r9 = nZ (spF tx st en wi))) 0 0 (fun _ => False) := by
  refine Met.ofW (cc := cX4_spells) (maxL := 3) (ret := (some .boolean)) (by decide) rfl ?_
  intro p e s m args below meth c s₁ B hml hv
  obtain ⟨rfl, ⟨hE, hP⟩, hZ⟩ := hv
  have hx := B.exec
  have hb := B.bytes
  have hr := B.returns
  have hts := atoms_spec (ws := wsX4_spells) B.pre
  have hown : s.vm.findClass RX4 = some m.cls := findClass_of_methodNamed B.named
  have hlocks := B.notSynchronized
  have hS : va_S (fun _ => False) s.heap s.heap [] := va_S.rf
  have hK := hE.1
  have hN := hE.2.1
  have hl := lv_entry ([.ref rdr, .ref (aK wi)]) (n := 3) (Nat.le_of_ble_eq_true rfl)
  rw [lg_entry_eq]
  generalize (lg_sl ([.ref rdr, .ref (aK wi)]) ++ List.replicate (3 - (lg_sl ([.ref rdr, .ref (aK wi)])).length) Slot.unset).toArray = ls at hl ⊢
  have hl : lv_has ls 3 [(0, .ref rdr), (1, .ref (aK wi))] := hl
  have iX4 : ∀ w ∈ u_ws RX4 TX4 7, w ∈ wsX4_spells := fun _ h => List.mem_cons_of_mem _ (List.mem_append_left _ (List.mem_append_right _ h))
  have hsn := scN_bd hwi
  refine lv_aload_n hx hb dX4_spells_0 rfl (lv_at hl 0 rfl) ?_
  refine va_get (D := D) (ci := 4) (v := .int (nZ en)) (C := RX4) (T := TX4) (N := 7) hx hb hts iX4 hown hK hP 0 rfl rfl 6 (by decide) (hts (.fieldLink RX4 26 "RainTarget$Reader" "end" "I") (List.mem_of_getElem? (i := 1) rfl)) (fun _ h9 => h9) rfl dX4_spells_1 ?_
  refine lv_aload_n hx hb dX4_spells_4 rfl (lv_at hl 0 rfl) ?_
  refine va_get (D := D) (ci := 4) (v := .int (nZ st)) (C := RX4) (T := TX4) (N := 7) hx hb hts iX4 hown hK hP 0 rfl rfl 5 (by decide) (hts (.fieldLink RX4 33 "RainTarget$Reader" "start" "I") (List.mem_of_getElem? (i := 2) rfl)) (fun _ h9 => h9) rfl dX4_spells_5 ?_
  refine z_isub hx hb dX4_spells_8 ?_
  refine lv_aload_n hx hb dX4_spells_9 rfl (lv_at hl 1 rfl) ?_
  refine vp_callSi ((va_runV (As := []) (rest := [.int (nZ (en - st))]) ⟨hx, hb, hml, hown, hts⟩ (c_J0_length_8abf5 l D cI cJ tn aK aV wi hwi ) (cwV 0 hts gX4_spells_J0_length_8abf5 rfl rfl rfl (by decide +kernel) ⟨Nat.le_of_ble_eq_true rfl, Nat.le_of_ble_eq_true rfl⟩) ⟨RoS.blind, vk_recv hZ.1 hwi hS, fun U hU hW => ⟨rfl, RoS.call hE hZ hS (hP.sub (ws' := []) [] rfl) hU hW⟩⟩ rfl rfl hl.1 rfl (lv_room (Nat.le_of_ble_eq_true rfl)) dX4_spells_10 ⟨Nat.le_of_ble_eq_true rfl, Nat.le_of_ble_eq_true rfl⟩).run) (fun r10 hr10 => ?_)
  subst hr10
  refine z_icmp_eq (tgt := 18) hx hb dX4_spells_13 (by decide) (by omega) (by omega) (fun c_13 => ?_) (fun c_13 => ?_)
  · refine lv_iconst (v := nZ 0) hx hb dX4_spells_18 rfl ?_
    refine lv_istore_n (lv' := [(2, .int (nZ 0)), (0, .ref rdr), (1, .ref (aK wi))]) hx hb dX4_spells_19 rfl hl (by decide) rfl (fun ls hl => ?_)
    refine z_rloop1 (fun (i : Int) => (0 ≤ i) ∧ (i ≤ scN wi) ∧ (∀ k, 0 ≤ k → k < i → tx (st + k) = scC wi k)) (fun (i : Int) => (scN wi - i).toNat) (fun (i : Int) => [(0, .ref rdr), (1, .ref (aK wi)), (2, .int (nZ i))]) ?_ 0 ⟨(by first | assumption | omega), (by first | assumption | omega), (fun k p1 p2 => by omega)⟩ (lv_sub hl [1, 2, 0] rfl)
    intro i hI20 ih20 ls hl
    have hl : lv_has ls 3 [(0, .ref rdr), (1, .ref (aK wi)), (2, .int (nZ i))] := hl
    obtain ⟨hi0, hi1, hal⟩ : (0 ≤ i) ∧ (i ≤ scN wi) ∧ (∀ k, 0 ≤ k → k < i → tx (st + k) = scC wi k) := hI20
    refine lv_iload_n hx hb dX4_spells_20 rfl (lv_at hl 2 rfl) ?_
    refine lv_aload_n hx hb dX4_spells_21 rfl (lv_at hl 1 rfl) ?_
    refine vp_callSi ((va_runV (As := []) (rest := [.int (nZ i)]) ⟨hx, hb, hml, hown, hts⟩ (c_J0_length_8abf5 l D cI cJ tn aK aV wi hwi ) (cwV 0 hts gX4_spells_J0_length_8abf5 rfl rfl rfl (by decide +kernel) ⟨Nat.le_of_ble_eq_true rfl, Nat.le_of_ble_eq_true rfl⟩) ⟨RoS.blind, vk_recv hZ.1 hwi hS, fun U hU hW => ⟨rfl, RoS.call hE hZ hS (hP.sub (ws' := []) [] rfl) hU hW⟩⟩ rfl rfl hl.1 rfl (lv_room (Nat.le_of_ble_eq_true rfl)) dX4_spells_22 ⟨Nat.le_of_ble_eq_true rfl, Nat.le_of_ble_eq_true rfl⟩).run) (fun r22 hr22 => ?_)
    subst hr22
    refine z_icmp_ge (tgt := 57) hx hb dX4_spells_25 (by decide) (by omega) (by omega) (fun c_25 => ?_) (fun c_25 => ?_)
    · refine lv_iconst (v := nZ 1) hx hb dX4_spells_57 rfl ?_
      exact W.zret (v := nZ 1) hx hb hr (z_bool (show (1 : Int) = 0 ∨ (1 : Int) = 1 from by omega)) (fun t9 ht9 _ => ⟨nZ 1, rfl, congrArg nZ (show (1 : Int) = spF tx st en wi from (spF_1 (by omega) (fun k p1 p2 => hal k p1 (by omega))).symm), ht9⟩) (fun _ h => by cases h) dX4_spells_58
    · refine lv_aload_n hx hb dX4_spells_28 rfl (lv_at hl 0 rfl) ?_
      refine va_get (D := D) (ci := 4) (v := .ref t) (C := RX4) (T := TX4) (N := 7) hx hb hts iX4 hown hK hP 0 rfl rfl 0 (by decide) (hts (.fieldLink RX4 18 "RainTarget$Reader" "text" "LRainTarget$Text;") (List.mem_of_getElem? (i := 3) rfl)) (fun _ h9 => h9) rfl dX4_spells_29 ?_
      refine lv_aload_n hx hb dX4_spells_32 rfl (lv_at hl 0 rfl) ?_
      refine va_get (D := D) (ci := 4) (v := .int (nZ st)) (C := RX4) (T := TX4) (N := 7) hx hb hts iX4 hown hK hP 0 rfl rfl 5 (by decide) (hts (.fieldLink RX4 33 "RainTarget$Reader" "start" "I") (List.mem_of_getElem? (i := 2) rfl)) (fun _ h9 => h9) rfl dX4_spells_33 ?_
      refine lv_iload_n hx hb dX4_spells_36 rfl (lv_at hl 2 rfl) ?_
      refine z_iadd hx hb dX4_spells_37 ?_
      refine vp_callSi ((va_runVN (As := [.int (nZ (st + i))]) (rest := []) ⟨hx, hb, hml, hown, hts⟩ (c_X7_at l D cI cJ tn t tq tx len (st + i) (by omega) (by omega) ) ⟨va_cnB 1 hts gX4_spells_X7_at_n65 rfl rfl rfl (nw_X4_65 hN) (hts (.initialized RX7) (List.mem_of_getElem? (i := 17) rfl)) (by decide +kernel) ⟨Nat.le_of_ble_eq_true rfl, Nat.le_of_ble_eq_true rfl⟩, (hts (.instanceMethod yX7_at) (List.mem_of_getElem? (i := 16) rfl)), (hts (.selects RX7 yX7_at yX7_at) (List.mem_of_getElem? (i := 18) rfl))⟩ ⟨RoP.blind, va_recv hK hP (ci := 7) (q0 := 1) rfl rfl, fun U hU hW => ⟨rfl, RoP.call hE hS (hP.sub (ws' := [(t, .inr (7, [.ref tq, .int (nZ len)])), (tq, .inl (cI, 200, .inl (aZ tx)))]) [1, 2] rfl) hU hW⟩⟩ rfl rfl hl.1 rfl (lv_room (Nat.le_of_ble_eq_true rfl)) dX4_spells_38 ⟨Nat.le_of_ble_eq_true rfl, Nat.le_of_ble_eq_true rfl⟩).run) (fun r38 hr38 => ?_)
      subst hr38
      refine z_nameI (fun r38 er38 => ?_)
      have hgp := hgb (st + i)
      have e38 : r38 = tx (st + i) := by rw [er38, if_pos (by omega)]
      have hcb := scC_bd hwi hi0 (show i < scN wi by omega)
      refine lv_aload_n hx hb dX4_spells_41 rfl (lv_at hl 1 rfl) ?_
      refine lv_iload_n hx hb dX4_spells_42 rfl (lv_at hl 2 rfl) ?_
      refine vp_callSi ((va_runV (As := [.int (nZ i)]) (rest := [.int (nZ r38)]) ⟨hx, hb, hml, hown, hts⟩ (c_J0_charAt_5068e l D cI cJ tn aK aV wi i hwi (by first | assumption | omega) (by first | assumption | omega) ) (cwV 1 hts gX4_spells_J0_charAt_5068e rfl rfl rfl (by decide +kernel) ⟨Nat.le_of_ble_eq_true rfl, Nat.le_of_ble_eq_true rfl⟩) ⟨RoS.blind, vk_recv hZ.1 hwi hS, fun U hU hW => ⟨rfl, RoS.call hE hZ hS (hP.sub (ws' := []) [] rfl) hU hW⟩⟩ rfl rfl hl.1 rfl (lv_room (Nat.le_of_ble_eq_true rfl)) dX4_spells_43 ⟨Nat.le_of_ble_eq_true rfl, Nat.le_of_ble_eq_true rfl⟩).run) (fun r43 hr43 => ?_)
      subst hr43
      refine z_icmp_eq (tgt := 51) hx hb dX4_spells_46 (by decide) (by omega) (by omega) (fun c_46 => ?_) (fun c_46 => ?_)
      · refine lv_iinc (v := nZ (i + 1)) (lv' := [(2, .int (nZ (i + 1))), (0, .ref rdr), (1, .ref (aK wi))]) hx hb dX4_spells_51 hl (k := 2) rfl (nZ_add _ _) (by decide) rfl (fun ls hl => ?_)
        refine lv_goto (tgt := 20) hx hb dX4_spells_54 (by decide) ?_
        exact ih20 (i + 1) ⟨(by first | assumption | omega), (by first | assumption | omega), (fun k p1 p2 => if q : k = i then (by rw [q]; omega) else hal k p1 (by omega))⟩ (show (scN wi - (i + 1)).toNat < (scN wi - i).toNat from by omega) ls (lv_sub hl [1, 2, 0] rfl)
      · refine lv_iconst (v := nZ 0) hx hb dX4_spells_49 rfl ?_
        exact W.zret (v := nZ 0) hx hb hr (z_bool (show (0 : Int) = 0 ∨ (0 : Int) = 1 from by omega)) (fun t9 ht9 _ => ⟨nZ 0, rfl, congrArg nZ (show (0 : Int) = spF tx st en wi from (spF_0 hi0 (by omega) (by omega)).symm), ht9⟩) (fun _ h => by cases h) dX4_spells_50
  · refine lv_iconst (v := nZ 0) hx hb dX4_spells_16 rfl ?_
    exact W.zret (v := nZ 0) hx hb hr (z_bool (show (0 : Int) = 0 ∨ (0 : Int) = 1 from by omega)) (fun t9 ht9 _ => ⟨nZ 0, rfl, congrArg nZ (show (0 : Int) = spF tx st en wi from (spF_n (by omega)).symm), ht9⟩) (fun _ h => by cases h) dX4_spells_17

set_option maxHeartbeats 4000000 in
set_option maxRecDepth 100000 in
theorem c_X4_spelled (l : Launch) (D : va_G) (cI cJ : ClassId) (tn : Nat) (aK aV : Nat → Nat) (rdr : Nat) (t : Nat) (wq : Nat) (nq : Nat) (tq : Nat) (tx : Int → Int) (len : Int) (li : Int) (kd : Int) (st : Int) (en : Int) (hl0 : 0 ≤ len) (hl1 : len ≤ 200) (hgb : ∀ k, 0 ≤ tx k ∧ tx k ≤ 255) (hs0 : 0 ≤ st) (hse : st ≤ en) (hel : en ≤ len)  : Met l yX4_spelled wsX4_spelled ({ frames := 5, cells := 0, slots := 0, locals := 107 } : Room) (va_Pc [.ref rdr] (RoS D cI cJ tn aK aV [(rdr, .inr (4, [.ref t, .ref wq, .ref nq, .int (nZ li), .int (nZ kd), .int (nZ st), .int (nZ en)])), (t, .inr (7, [.ref tq, .int (nZ len)])), (tq, .inl (cI, 200, .inl (aZ tx)))])) (vp_Si (fun r9 : Int32 => r9 = nZ (lnF tx st en))) 0 0 (fun _ => False) := by
  refine Met.ofW (cc := cX4_spelled) (maxL := 1) (ret := (some .int)) (by decide) rfl ?_
  intro p e s m args below meth c s₁ B hml hv
  obtain ⟨rfl, ⟨hE, hP⟩, hZ⟩ := hv
  have hx := B.exec
  have hb := B.bytes
  have hr := B.returns
  have hts := atoms_spec (ws := wsX4_spelled) B.pre
  have hown : s.vm.findClass RX4 = some m.cls := findClass_of_methodNamed B.named
  have hlocks := B.notSynchronized
  have hS : va_S (fun _ => False) s.heap s.heap [] := va_S.rf
  have hK := hE.1
  have hN := hE.2.1
  have hl := lv_entry ([.ref rdr]) (n := 1) (Nat.le_of_ble_eq_true rfl)
  rw [lg_entry_eq]
  generalize (lg_sl ([.ref rdr]) ++ List.replicate (1 - (lg_sl ([.ref rdr])).length) Slot.unset).toArray = ls at hl ⊢
  have hl : lv_has ls 1 [(0, .ref rdr)] := hl
  refine lv_aload_n hx hb dX4_spelled_0 rfl (lv_at hl 0 rfl) ?_
  refine va_ldcS hx hb hown hZ.2.2.2.1 dX4_spelled_1 ?_
  refine vp_callSi ((va_runV (As := [.ref (aK 0)]) (rest := []) ⟨hx, hb, hml, hown, hts⟩ (c_X4_spells l D cI cJ tn aK aV rdr t wq nq tq tx len li kd st en 0 (by decide) hl0 hl1 hgb hs0 hse hel ) (cwV 1 hts gX4_spelled_X4_spells rfl rfl rfl (by decide +kernel) ⟨Nat.le_of_ble_eq_true rfl, Nat.le_of_ble_eq_true rfl⟩) ⟨RoS.blind, va_recv hK hP (ci := 4) (q0 := 0) rfl rfl, fun U hU hW => ⟨rfl, RoS.call hE hZ hS (hP.sub (ws' := [(rdr, .inr (4, [.ref t, .ref wq, .ref nq, .int (nZ li), .int (nZ kd), .int (nZ st), .int (nZ en)])), (t, .inr (7, [.ref tq, .int (nZ len)])), (tq, .inl (cI, 200, .inl (aZ tx)))]) [0, 1, 2] rfl) hU hW⟩⟩ rfl rfl hl.1 rfl (lv_room (Nat.le_of_ble_eq_true rfl)) dX4_spelled_3 ⟨Nat.le_of_ble_eq_true rfl, Nat.le_of_ble_eq_true rfl⟩).run) (fun r3 hr3 => ?_)
  subst hr3
  refine z_nameI (fun r3 er3 => ?_)
  have hb3 := spF_bd tx st en 0
  refine z_if_eq (tgt := 11) hx hb dX4_spelled_6 (by decide) (by omega) (fun c_6 => ?_) (fun c_6 => ?_)
  · refine lv_aload_n hx hb dX4_spelled_11 rfl (lv_at hl 0 rfl) ?_
    refine va_ldcS hx hb hown hZ.2.2.2.2.1 dX4_spelled_12 ?_
    refine vp_callSi ((va_runV (As := [.ref (aK 1)]) (rest := []) ⟨hx, hb, hml, hown, hts⟩ (c_X4_spells l D cI cJ tn aK aV rdr t wq nq tq tx len li kd st en 1 (by decide) hl0 hl1 hgb hs0 hse hel ) (cwV 1 hts gX4_spelled_X4_spells rfl rfl rfl (by decide +kernel) ⟨Nat.le_of_ble_eq_true rfl, Nat.le_of_ble_eq_true rfl⟩) ⟨RoS.blind, va_recv hK hP (ci := 4) (q0 := 0) rfl rfl, fun U hU hW => ⟨rfl, RoS.call hE hZ hS (hP.sub (ws' := [(rdr, .inr (4, [.ref t, .ref wq, .ref nq, .int (nZ li), .int (nZ kd), .int (nZ st), .int (nZ en)])), (t, .inr (7, [.ref tq, .int (nZ len)])), (tq, .inl (cI, 200, .inl (aZ tx)))]) [0, 1, 2] rfl) hU hW⟩⟩ rfl rfl hl.1 rfl (lv_room (Nat.le_of_ble_eq_true rfl)) dX4_spelled_14 ⟨Nat.le_of_ble_eq_true rfl, Nat.le_of_ble_eq_true rfl⟩).run) (fun r14 hr14 => ?_)
    subst hr14
    refine z_nameI (fun r14 er14 => ?_)
    have hb14 := spF_bd tx st en 1
    refine z_if_eq (tgt := 22) hx hb dX4_spelled_17 (by decide) (by omega) (fun c_17 => ?_) (fun c_17 => ?_)
    · refine lv_aload_n hx hb dX4_spelled_22 rfl (lv_at hl 0 rfl) ?_
      refine va_ldcS hx hb hown hZ.2.2.2.2.2.1 dX4_spelled_23 ?_
      refine vp_callSi ((va_runV (As := [.ref (aK 2)]) (rest := []) ⟨hx, hb, hml, hown, hts⟩ (c_X4_spells l D cI cJ tn aK aV rdr t wq nq tq tx len li kd st en 2 (by decide) hl0 hl1 hgb hs0 hse hel ) (cwV 1 hts gX4_spelled_X4_spells rfl rfl rfl (by decide +kernel) ⟨Nat.le_of_ble_eq_true rfl, Nat.le_of_ble_eq_true rfl⟩) ⟨RoS.blind, va_recv hK hP (ci := 4) (q0 := 0) rfl rfl, fun U hU hW => ⟨rfl, RoS.call hE hZ hS (hP.sub (ws' := [(rdr, .inr (4, [.ref t, .ref wq, .ref nq, .int (nZ li), .int (nZ kd), .int (nZ st), .int (nZ en)])), (t, .inr (7, [.ref tq, .int (nZ len)])), (tq, .inl (cI, 200, .inl (aZ tx)))]) [0, 1, 2] rfl) hU hW⟩⟩ rfl rfl hl.1 rfl (lv_room (Nat.le_of_ble_eq_true rfl)) dX4_spelled_25 ⟨Nat.le_of_ble_eq_true rfl, Nat.le_of_ble_eq_true rfl⟩).run) (fun r25 hr25 => ?_)
      subst hr25
      refine z_nameI (fun r25 er25 => ?_)
      have hb25 := spF_bd tx st en 2
      refine z_if_eq (tgt := 33) hx hb dX4_spelled_28 (by decide) (by omega) (fun c_28 => ?_) (fun c_28 => ?_)
      · refine lv_aload_n hx hb dX4_spelled_33 rfl (lv_at hl 0 rfl) ?_
        refine va_ldcS hx hb hown hZ.2.2.2.2.2.2.1 dX4_spelled_34 ?_
        refine vp_callSi ((va_runV (As := [.ref (aK 3)]) (rest := []) ⟨hx, hb, hml, hown, hts⟩ (c_X4_spells l D cI cJ tn aK aV rdr t wq nq tq tx len li kd st en 3 (by decide) hl0 hl1 hgb hs0 hse hel ) (cwV 1 hts gX4_spelled_X4_spells rfl rfl rfl (by decide +kernel) ⟨Nat.le_of_ble_eq_true rfl, Nat.le_of_ble_eq_true rfl⟩) ⟨RoS.blind, va_recv hK hP (ci := 4) (q0 := 0) rfl rfl, fun U hU hW => ⟨rfl, RoS.call hE hZ hS (hP.sub (ws' := [(rdr, .inr (4, [.ref t, .ref wq, .ref nq, .int (nZ li), .int (nZ kd), .int (nZ st), .int (nZ en)])), (t, .inr (7, [.ref tq, .int (nZ len)])), (tq, .inl (cI, 200, .inl (aZ tx)))]) [0, 1, 2] rfl) hU hW⟩⟩ rfl rfl hl.1 rfl (lv_room (Nat.le_of_ble_eq_true rfl)) dX4_spelled_36 ⟨Nat.le_of_ble_eq_true rfl, Nat.le_of_ble_eq_true rfl⟩).run) (fun r36 hr36 => ?_)
        subst hr36
        refine z_nameI (fun r36 er36 => ?_)
        have hb36 := spF_bd tx st en 3
        refine z_if_eq (tgt := 44) hx hb dX4_spelled_39 (by decide) (by omega) (fun c_39 => ?_) (fun c_39 => ?_)
        · refine lv_aload_n hx hb dX4_spelled_44 rfl (lv_at hl 0 rfl) ?_
          refine va_ldcS hx hb hown hZ.2.2.2.2.2.2.2.1 dX4_spelled_45 ?_
          refine vp_callSi ((va_runV (As := [.ref (aK 4)]) (rest := []) ⟨hx, hb, hml, hown, hts⟩ (c_X4_spells l D cI cJ tn aK aV rdr t wq nq tq tx len li kd st en 4 (by decide) hl0 hl1 hgb hs0 hse hel ) (cwV 1 hts gX4_spelled_X4_spells rfl rfl rfl (by decide +kernel) ⟨Nat.le_of_ble_eq_true rfl, Nat.le_of_ble_eq_true rfl⟩) ⟨RoS.blind, va_recv hK hP (ci := 4) (q0 := 0) rfl rfl, fun U hU hW => ⟨rfl, RoS.call hE hZ hS (hP.sub (ws' := [(rdr, .inr (4, [.ref t, .ref wq, .ref nq, .int (nZ li), .int (nZ kd), .int (nZ st), .int (nZ en)])), (t, .inr (7, [.ref tq, .int (nZ len)])), (tq, .inl (cI, 200, .inl (aZ tx)))]) [0, 1, 2] rfl) hU hW⟩⟩ rfl rfl hl.1 rfl (lv_room (Nat.le_of_ble_eq_true rfl)) dX4_spelled_47 ⟨Nat.le_of_ble_eq_true rfl, Nat.le_of_ble_eq_true rfl⟩).run) (fun r47 hr47 => ?_)
          subst hr47
          refine z_nameI (fun r47 er47 => ?_)
          have hb47 := spF_bd tx st en 4
          refine z_if_eq (tgt := 55) hx hb dX4_spelled_50 (by decide) (by omega) (fun c_50 => ?_) (fun c_50 => ?_)
          · refine lv_aload_n hx hb dX4_spelled_55 rfl (lv_at hl 0 rfl) ?_
            refine va_ldcS hx hb hown hZ.2.2.2.2.2.2.2.2 dX4_spelled_56 ?_
            refine vp_callSi ((va_runV (As := [.ref (aK 5)]) (rest := []) ⟨hx, hb, hml, hown, hts⟩ (c_X4_spells l D cI cJ tn aK aV rdr t wq nq tq tx len li kd st en 5 (by decide) hl0 hl1 hgb hs0 hse hel ) (cwV 1 hts gX4_spelled_X4_spells rfl rfl rfl (by decide +kernel) ⟨Nat.le_of_ble_eq_true rfl, Nat.le_of_ble_eq_true rfl⟩) ⟨RoS.blind, va_recv hK hP (ci := 4) (q0 := 0) rfl rfl, fun U hU hW => ⟨rfl, RoS.call hE hZ hS (hP.sub (ws' := [(rdr, .inr (4, [.ref t, .ref wq, .ref nq, .int (nZ li), .int (nZ kd), .int (nZ st), .int (nZ en)])), (t, .inr (7, [.ref tq, .int (nZ len)])), (tq, .inl (cI, 200, .inl (aZ tx)))]) [0, 1, 2] rfl) hU hW⟩⟩ rfl rfl hl.1 rfl (lv_room (Nat.le_of_ble_eq_true rfl)) dX4_spelled_58 ⟨Nat.le_of_ble_eq_true rfl, Nat.le_of_ble_eq_true rfl⟩).run) (fun r58 hr58 => ?_)
            subst hr58
            refine z_nameI (fun r58 er58 => ?_)
            have hb58 := spF_bd tx st en 5
            refine z_if_eq (tgt := 68) hx hb dX4_spelled_61 (by decide) (by omega) (fun c_61 => ?_) (fun c_61 => ?_)
            · refine lv_iconst (v := nZ (-1)) hx hb dX4_spelled_68 rfl ?_
              exact W.iret (v := nZ (-1)) hx hb hr (fun t9 ht9 _ => ⟨nZ (-1), rfl, congrArg nZ (show (-1 : Int) = lnF tx st en from (by unfold lnF; rw [if_neg (by omega), if_neg (by omega), if_neg (by omega), if_neg (by omega), if_neg (by omega), if_neg (by omega)])), ht9⟩) (fun _ h => by cases h) dX4_spelled_69
            · refine lv_iconst (v := nZ 5) hx hb dX4_spelled_64 rfl ?_
              refine lv_goto (tgt := 69) hx hb dX4_spelled_65 (by decide) ?_
              exact W.iret (v := nZ 5) hx hb hr (fun t9 ht9 _ => ⟨nZ 5, rfl, congrArg nZ (show (5 : Int) = lnF tx st en from (by unfold lnF; rw [if_neg (by omega), if_neg (by omega), if_neg (by omega), if_neg (by omega), if_neg (by omega), if_pos (by omega)])), ht9⟩) (fun _ h => by cases h) dX4_spelled_69
          · refine lv_iconst (v := nZ 4) hx hb dX4_spelled_53 rfl ?_
            exact W.iret (v := nZ 4) hx hb hr (fun t9 ht9 _ => ⟨nZ 4, rfl, congrArg nZ (show (4 : Int) = lnF tx st en from (by unfold lnF; rw [if_neg (by omega), if_neg (by omega), if_neg (by omega), if_neg (by omega), if_pos (by omega)])), ht9⟩) (fun _ h => by cases h) dX4_spelled_54
        · refine lv_iconst (v := nZ 3) hx hb dX4_spelled_42 rfl ?_
          exact W.iret (v := nZ 3) hx hb hr (fun t9 ht9 _ => ⟨nZ 3, rfl, congrArg nZ (show (3 : Int) = lnF tx st en from (by unfold lnF; rw [if_neg (by omega), if_neg (by omega), if_neg (by omega), if_pos (by omega)])), ht9⟩) (fun _ h => by cases h) dX4_spelled_43
      · refine lv_iconst (v := nZ 2) hx hb dX4_spelled_31 rfl ?_
        exact W.iret (v := nZ 2) hx hb hr (fun t9 ht9 _ => ⟨nZ 2, rfl, congrArg nZ (show (2 : Int) = lnF tx st en from (by unfold lnF; rw [if_neg (by omega), if_neg (by omega), if_pos (by omega)])), ht9⟩) (fun _ h => by cases h) dX4_spelled_32
    · refine lv_iconst (v := nZ 1) hx hb dX4_spelled_20 rfl ?_
      exact W.iret (v := nZ 1) hx hb hr (fun t9 ht9 _ => ⟨nZ 1, rfl, congrArg nZ (show (1 : Int) = lnF tx st en from (by unfold lnF; rw [if_neg (by omega), if_pos (by omega)])), ht9⟩) (fun _ h => by cases h) dX4_spelled_21
  · refine lv_iconst (v := nZ 0) hx hb dX4_spelled_9 rfl ?_
    exact W.iret (v := nZ 0) hx hb hr (fun t9 ht9 _ => ⟨nZ 0, rfl, congrArg nZ (show (0 : Int) = lnF tx st en from (by unfold lnF; rw [if_pos (by omega)])), ht9⟩) (fun _ h => by cases h) dX4_spelled_10

