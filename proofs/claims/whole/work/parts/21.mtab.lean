set_option maxHeartbeats 4000000 in
set_option maxRecDepth 100000 in
theorem c_X10_makesBy (l : Launch) (D : va_G) (cI cJ : ClassId) (tn : Nat) (h : Nat) (a2 : Nat) (a3 : Nat) (a10 : Nat) (a18 : Nat) (a20 : Nat) (a21 : Nat) (a23 : Nat) (a24 : Nat) (a25 : Nat) (a27 : Nat) (a28 : Nat) (a29 : Nat) (a31 : Nat) (a32 : Nat) (mo : Int) (mm : Int) (mpr : Int) (mbe : Int) (mct : Int) (mco : Int) (mli : Int) (mby : Int) (mps : Int) (mta : Int) (mtk : Int) (mdg : Int) (mnu : Int) (mfa : Int) (mrm : Int) (mfm : Int) (mev : Int) (mmt : Int) (mla : Int) (mle : Int) (mst : Int) (mru : Int) (mtn : Int) (mlo : Int) (mbl : Int) (mch : Int) (cs : Int → Int) (mp : Int → Int) (me : Int → Int) (a : Int) (u : Int) (v : Int) (hM : MoodOK cs mp) (ha0 : 0 ≤ a) (ha4 : a < 4) (hu1 : 1 ≤ u) (hu2 : u ≤ 12) (hv1 : 1 ≤ v) (hv2 : v ≤ 10) (hme : ∀ w, 0 ≤ w → w ≤ v → me (11 * (u - 1) + w) = MK cs mp (u - 1).toNat w)  : Met l yX10_makesBy wsX10_makesBy ({ frames := 1, cells := 0, slots := 0, locals := 23 } : Room) (va_Pc [.ref h, .int (nZ a), .int (nZ u), .int (nZ v)] (RoP D cI cJ tn [(h, .inr (10, [.int (nZ mo), .int (nZ mm), .ref a2, .ref a3, .int (nZ mpr), .int (nZ mbe), .int (nZ mct), .int (nZ mco), .int (nZ mli), .int (nZ mby), .ref a10, .int (nZ mps), .int (nZ mta), .long (lZ mtk), .int (nZ mdg), .int (nZ mnu), .int (nZ mfa), .int (nZ mrm), .ref a18, .int (nZ mfm), .ref a20, .ref a21, .int (nZ mev), .ref a23, .ref a24, .ref a25, .int (nZ mmt), .ref a27, .ref a28, .ref a29, .int (nZ mla), .ref a31, .ref a32, .int (nZ mle), .int (nZ mst), .int (nZ mru), .int (nZ mtn), .int (nZ mlo), .int (nZ mbl), .int (nZ mch)])), (a2, .inl (cI, 4, .inl (aZ cs))), (a3, .inl (cI, 48, .inl (aZ mp))), (a31, .inl (cJ, 143, .inr (.inl (bZ me))))])) (vp_Sl (fun r9 : Int64 => r9 = lZ (MKin cs mp a (u - 1).toNat v))) 0 0 (fun _ => False) := by
  refine Met.ofW (cc := cX10_makesBy) (maxL := 8) (ret := (some .long)) (by decide) rfl ?_
  intro p e s m args below meth c s₁ B hml hv
  obtain ⟨rfl, hE, hP⟩ := hv
  have hx := B.exec
  have hb := B.bytes
  have hr := B.returns
  have hts := atoms_spec (ws := wsX10_makesBy) B.pre
  have hown : s.vm.findClass RX10 = some m.cls := findClass_of_methodNamed B.named
  have hlocks := B.notSynchronized
  have hS : va_S (fun _ => False) s.heap s.heap [] := va_S.rf
  have hK := hE.1
  have hN := hE.2.1
  have hl := lv_entry ([.ref h, .int (nZ a), .int (nZ u), .int (nZ v)]) (n := 8) (Nat.le_of_ble_eq_true rfl)
  rw [lg_entry_eq]
  generalize (lg_sl ([.ref h, .int (nZ a), .int (nZ u), .int (nZ v)]) ++ List.replicate (8 - (lg_sl ([.ref h, .int (nZ a), .int (nZ u), .int (nZ v)])).length) Slot.unset).toArray = ls at hl ⊢
  have hl : lv_has ls 8 [(0, .ref h), (1, .int (nZ a)), (2, .int (nZ u)), (3, .int (nZ v))] := hl
  have iX10 : ∀ w ∈ u_ws RX10 TX10 40, w ∈ wsX10_makesBy := fun _ h => List.mem_cons_of_mem _ (List.mem_append_right _ h)
  refine lv_lconst (v := lZ 0) hx hb dX10_makesBy_0 rfl ?_
  refine lv_lstore (lv' := [(4, .long (lZ 0)), (0, .ref h), (1, .int (nZ a)), (2, .int (nZ u)), (3, .int (nZ v))]) hx hb dX10_makesBy_1 hl (by decide) rfl (fun ls hl => ?_)
  refine lv_iconst (v := nZ 0) hx hb dX10_makesBy_3 rfl ?_
  refine lv_istore (lv' := [(6, .int (nZ 0)), (4, .long (lZ 0)), (0, .ref h), (1, .int (nZ a)), (2, .int (nZ u)), (3, .int (nZ v))]) hx hb dX10_makesBy_4 hl (by decide) rfl (fun ls hl => ?_)
  refine z_rloop2 (fun (k : Int) (i : Int) => (0 ≤ i) ∧ (i ≤ cs a) ∧ (k = sumN (mkT cs mp a (u - 1).toNat v) i.toNat)) (fun (k : Int) (i : Int) => (cs a - i).toNat) (fun (k : Int) (i : Int) => [(0, .ref h), (1, .int (nZ a)), (2, .int (nZ u)), (3, .int (nZ v)), (4, .long (lZ k)), (6, .int (nZ i))]) ?_ 0 0 ⟨(by first | assumption | omega), (hM a ha0 ha4).1.1, rfl⟩ (lv_sub hl [2, 3, 4, 5, 1, 0] rfl)
  intro k i hI6 ih6 ls hl
  have hl : lv_has ls 8 [(0, .ref h), (1, .int (nZ a)), (2, .int (nZ u)), (3, .int (nZ v)), (4, .long (lZ k)), (6, .int (nZ i))] := hl
  obtain ⟨hi0, hi1, hk⟩ : (0 ≤ i) ∧ (i ≤ cs a) ∧ (k = sumN (mkT cs mp a (u - 1).toNat v) i.toNat) := hI6
  have hca := (hM a ha0 ha4).1
  refine lv_iload hx hb dX10_makesBy_6 (lv_at hl 5 rfl) ?_
  refine lv_aload_n hx hb dX10_makesBy_8 rfl (lv_at hl 0 rfl) ?_
  refine va_get (D := D) (ci := 10) (v := .ref a2) (C := RX10) (T := TX10) (N := 40) hx hb hts iX10 hown hK hP 0 rfl rfl 2 (by decide) (hts (.fieldLink RX10 16 "RainTargetModel" "cases" "[I") (List.mem_of_getElem? (i := 1) rfl)) (fun _ h9 => h9) rfl dX10_makesBy_9 ?_
  refine lv_iload_n hx hb dX10_makesBy_12 rfl (lv_at hl 1 rfl) ?_
  refine z_iald hx hb hK hP 1 0 rfl rfl (by omega) (by omega) (by omega) dX10_makesBy_13 ?_
  refine z_icmp_ge (tgt := 86) hx hb dX10_makesBy_14 (by decide) (by omega) (by omega) (fun c_14 => ?_) (fun c_14 => ?_)
  · refine lv_lload hx hb dX10_makesBy_86 (lv_at hl 4 rfl) ?_
    exact W.lret (v := lZ k) hx hb hr (fun t9 ht9 _ => ⟨lZ k, rfl, congrArg lZ (show (k : Int) = MKin cs mp a (u - 1).toNat v from (by rw [hk, show i = cs a from by omega]; rfl)), ht9⟩) (fun _ h => by cases h) dX10_makesBy_88
  · have hi2 : i < cs a := by omega
    have hcase := (hM a ha0 ha4).2.1 i hi0 hi2
    refine lv_bipush (v := nZ 12) hx hb dX10_makesBy_17 (by decide) ?_
    refine lv_iload_n hx hb dX10_makesBy_19 rfl (lv_at hl 1 rfl) ?_
    refine z_imul hx hb dX10_makesBy_20 ?_
    refine lv_iconst (v := nZ 3) hx hb dX10_makesBy_21 rfl ?_
    refine lv_iload hx hb dX10_makesBy_22 (lv_at hl 5 rfl) ?_
    refine z_imul hx hb dX10_makesBy_24 ?_
    refine z_iadd hx hb dX10_makesBy_25 ?_
    refine lv_istore (lv' := [(7, .int (nZ ((12 * a) + (3 * i)))), (0, .ref h), (1, .int (nZ a)), (2, .int (nZ u)), (3, .int (nZ v)), (4, .long (lZ k)), (6, .int (nZ i))]) hx hb dX10_makesBy_26 hl (by decide) rfl (fun ls hl => ?_)
    refine lv_lload hx hb dX10_makesBy_28 (lv_at hl 5 rfl) ?_
    refine lv_aload_n hx hb dX10_makesBy_30 rfl (lv_at hl 1 rfl) ?_
    refine va_get (D := D) (ci := 10) (v := .ref a3) (C := RX10) (T := TX10) (N := 40) hx hb hts iX10 hown hK hP 0 rfl rfl 3 (by decide) (hts (.fieldLink RX10 20 "RainTargetModel" "mood" "[I") (List.mem_of_getElem? (i := 2) rfl)) (fun _ h9 => h9) rfl dX10_makesBy_31 ?_
    refine lv_iload hx hb dX10_makesBy_34 (lv_at hl 0 rfl) ?_
    refine lv_iconst (v := nZ 2) hx hb dX10_makesBy_36 rfl ?_
    refine z_iadd hx hb dX10_makesBy_37 ?_
    refine z_iald hx hb hK hP 2 0 rfl rfl (by omega) (by omega) (by omega) dX10_makesBy_38 ?_
    refine z_i2l hx hb dX10_makesBy_39 (by omega) ?_
    refine lv_aload_n hx hb dX10_makesBy_40 rfl (lv_at hl 1 rfl) ?_
    refine va_get (D := D) (ci := 10) (v := .ref a3) (C := RX10) (T := TX10) (N := 40) hx hb hts iX10 hown hK hP 0 rfl rfl 3 (by decide) (hts (.fieldLink RX10 20 "RainTargetModel" "mood" "[I") (List.mem_of_getElem? (i := 2) rfl)) (fun _ h9 => h9) rfl dX10_makesBy_41 ?_
    refine lv_iload hx hb dX10_makesBy_44 (lv_at hl 0 rfl) ?_
    refine z_iald hx hb hK hP 2 0 rfl rfl (by omega) (by omega) (by omega) dX10_makesBy_46 ?_
    refine z_i2l hx hb dX10_makesBy_47 (by omega) ?_
    refine lv_iload_n hx hb dX10_makesBy_48 rfl (lv_at hl 3 rfl) ?_
    refine lv_iconst (v := nZ 1) hx hb dX10_makesBy_49 rfl ?_
    refine z_isub hx hb dX10_makesBy_50 ?_
    refine vp_callSl ((va_runS (As := [.int (nZ (u - 1))]) (rest := [.long (lZ (mp ((12 * a) + (3 * i)))), .long (lZ (mp (((12 * a) + (3 * i)) + 2))), .long (lZ k)]) ⟨hx, hb, hml, hown, hts⟩ (c_X10_ten l D cI cJ tn (u - 1) (by omega) ) (va_cwS 1 hts gX10_makesBy_X10_ten rfl rfl rfl (by decide +kernel) ⟨Nat.le_of_ble_eq_true rfl, Nat.le_of_ble_eq_true rfl⟩) ⟨RoP.blind, fun U hU hW => ⟨rfl, RoP.call hE hS (hP.sub (ws' := []) [] rfl) hU hW⟩⟩ rfl rfl hl.1 rfl (lv_room (Nat.le_of_ble_eq_true rfl)) dX10_makesBy_51 ⟨Nat.le_of_ble_eq_true rfl, Nat.le_of_ble_eq_true rfl⟩).run) (fun r51 hr51 => ?_)
    subst hr51
    refine z_nameL (fun r51 er51 => ?_)
    refine z_lmul hx hb dX10_makesBy_54 ?_
    refine lv_aload_n hx hb dX10_makesBy_55 rfl (lv_at hl 1 rfl) ?_
    refine lv_iload_n hx hb dX10_makesBy_56 rfl (lv_at hl 3 rfl) ?_
    refine lv_iconst (v := nZ 1) hx hb dX10_makesBy_57 rfl ?_
    refine z_isub hx hb dX10_makesBy_58 ?_
    refine lv_iload_n hx hb dX10_makesBy_59 rfl (lv_at hl 4 rfl) ?_
    refine lv_aload_n hx hb dX10_makesBy_60 rfl (lv_at hl 1 rfl) ?_
    refine va_get (D := D) (ci := 10) (v := .ref a3) (C := RX10) (T := TX10) (N := 40) hx hb hts iX10 hown hK hP 0 rfl rfl 3 (by decide) (hts (.fieldLink RX10 20 "RainTargetModel" "mood" "[I") (List.mem_of_getElem? (i := 2) rfl)) (fun _ h9 => h9) rfl dX10_makesBy_61 ?_
    refine lv_iload hx hb dX10_makesBy_64 (lv_at hl 0 rfl) ?_
    refine lv_iconst (v := nZ 1) hx hb dX10_makesBy_66 rfl ?_
    refine z_iadd hx hb dX10_makesBy_67 ?_
    refine z_iald hx hb hK hP 2 0 rfl rfl (by omega) (by omega) (by omega) dX10_makesBy_68 ?_
    refine vp_callSi ((va_runS (As := [.int (nZ v), .int (nZ (mp (((12 * a) + (3 * i)) + 1)))]) (rest := [.int (nZ (u - 1)), .ref h, .long (lZ ((mp ((12 * a) + (3 * i))) * r51)), .long (lZ (mp (((12 * a) + (3 * i)) + 2))), .long (lZ k)]) ⟨hx, hb, hml, hown, hts⟩ (c_X10_rest l D cI cJ tn v (mp (((12 * a) + (3 * i)) + 1)) (by omega) (by omega) ) (va_cwS 2 hts gX10_makesBy_X10_rest rfl rfl rfl (by decide +kernel) ⟨Nat.le_of_ble_eq_true rfl, Nat.le_of_ble_eq_true rfl⟩) ⟨RoP.blind, fun U hU hW => ⟨rfl, RoP.call hE hS (hP.sub (ws' := []) [] rfl) hU hW⟩⟩ rfl rfl hl.1 rfl (lv_room (Nat.le_of_ble_eq_true rfl)) dX10_makesBy_69 ⟨Nat.le_of_ble_eq_true rfl, Nat.le_of_ble_eq_true rfl⟩).run) (fun r69 hr69 => ?_)
    subst hr69
    refine z_nameI (fun r69 er69 => ?_)
    refine vp_callSl ((va_runV (As := [.int (nZ (u - 1)), .int (nZ r69)]) (rest := [.long (lZ ((mp ((12 * a) + (3 * i))) * r51)), .long (lZ (mp (((12 * a) + (3 * i)) + 2))), .long (lZ k)]) ⟨hx, hb, hml, hown, hts⟩ (c_X10_makesOf l D cI cJ tn h a2 a3 a10 a18 a20 a21 a23 a24 a25 a27 a28 a29 a31 a32 mo mm mpr mbe mct mco mli mby mps mta mtk mdg mnu mfa mrm mfm mev mmt mla mle mst mru mtn mlo mbl mch me (u - 1) r69 (by first | assumption | omega) (by first | assumption | omega) (by first | assumption | omega) (by first | assumption | omega) ) (cwV 2 hts gX10_makesBy_X10_makesOf rfl rfl rfl (by decide +kernel) ⟨Nat.le_of_ble_eq_true rfl, Nat.le_of_ble_eq_true rfl⟩) ⟨RoP.blind, va_recv hK hP (ci := 10) (q0 := 0) rfl rfl, fun U hU hW => ⟨rfl, RoP.call hE hS (hP.sub (ws' := [(h, .inr (10, [.int (nZ mo), .int (nZ mm), .ref a2, .ref a3, .int (nZ mpr), .int (nZ mbe), .int (nZ mct), .int (nZ mco), .int (nZ mli), .int (nZ mby), .ref a10, .int (nZ mps), .int (nZ mta), .long (lZ mtk), .int (nZ mdg), .int (nZ mnu), .int (nZ mfa), .int (nZ mrm), .ref a18, .int (nZ mfm), .ref a20, .ref a21, .int (nZ mev), .ref a23, .ref a24, .ref a25, .int (nZ mmt), .ref a27, .ref a28, .ref a29, .int (nZ mla), .ref a31, .ref a32, .int (nZ mle), .int (nZ mst), .int (nZ mru), .int (nZ mtn), .int (nZ mlo), .int (nZ mbl), .int (nZ mch)])), (a31, .inl (cJ, 143, .inr (.inl (bZ me))))]) [0, 3] rfl) hU hW⟩⟩ rfl rfl hl.1 rfl (lv_room (Nat.le_of_ble_eq_true rfl)) dX10_makesBy_72 ⟨Nat.le_of_ble_eq_true rfl, Nat.le_of_ble_eq_true rfl⟩).run) (fun r72 hr72 => ?_)
    subst hr72
    refine z_nameL (fun r72 er72 => ?_)
    refine z_ladd hx hb dX10_makesBy_75 ?_
    refine z_lmul hx hb dX10_makesBy_76 ?_
    refine z_ladd hx hb dX10_makesBy_77 ?_
    refine lv_lstore (lv' := [(4, .long (lZ (k + ((mp (((12 * a) + (3 * i)) + 2)) * (((mp ((12 * a) + (3 * i))) * r51) + r72))))), (7, .int (nZ ((12 * a) + (3 * i)))), (0, .ref h), (1, .int (nZ a)), (2, .int (nZ u)), (3, .int (nZ v)), (6, .int (nZ i))]) hx hb dX10_makesBy_78 hl (by decide) rfl (fun ls hl => ?_)
    have hterm : mp (12 * a + 3 * i + 2) * (mp (12 * a + 3 * i) * r51 + r72) = mkT cs mp a (u - 1).toNat v i := by
      unfold mkT
      rw [er51, er72, er69]
      by_cases q : v < mp (12 * a + 3 * i + 1)
      · rw [if_pos q, hme 0 (by omega) (by omega), MK_men cs mp _ (by omega), MK_men cs mp _ (by omega)]
      · rw [if_neg q, hme _ (by omega) (by omega)]
    refine lv_iinc (v := nZ (i + 1)) (lv' := [(6, .int (nZ (i + 1))), (4, .long (lZ (k + ((mp (((12 * a) + (3 * i)) + 2)) * (((mp ((12 * a) + (3 * i))) * r51) + r72))))), (7, .int (nZ ((12 * a) + (3 * i)))), (0, .ref h), (1, .int (nZ a)), (2, .int (nZ u)), (3, .int (nZ v))]) hx hb dX10_makesBy_80 hl (k := 6) rfl (nZ_add _ _) (by decide) rfl (fun ls hl => ?_)
    refine lv_goto (tgt := 6) hx hb dX10_makesBy_83 (by decide) ?_
    exact ih6 (k + ((mp (((12 * a) + (3 * i)) + 2)) * (((mp ((12 * a) + (3 * i))) * r51) + r72))) (i + 1) ⟨(by first | assumption | omega), (by first | assumption | omega), (by rw [sumN_s0 _ hi0, hk, ← hterm])⟩ (show (cs a - (i + 1)).toNat < (cs a - i).toNat from by omega) ls (lv_sub hl [3, 4, 5, 6, 1, 0] rfl)

set_option maxHeartbeats 4000000 in
set_option maxRecDepth 100000 in
theorem c_X10_winsBy (l : Launch) (D : va_G) (cI cJ : ClassId) (tn : Nat) (h : Nat) (a2 : Nat) (a3 : Nat) (a10 : Nat) (a18 : Nat) (a20 : Nat) (a21 : Nat) (a23 : Nat) (a24 : Nat) (a25 : Nat) (a27 : Nat) (a28 : Nat) (a29 : Nat) (a31 : Nat) (a32 : Nat) (mo : Int) (mm : Int) (mpr : Int) (mbe : Int) (mct : Int) (mco : Int) (mli : Int) (mby : Int) (mps : Int) (mta : Int) (mtk : Int) (mdg : Int) (mnu : Int) (mfa : Int) (mrm : Int) (mfm : Int) (mev : Int) (mmt : Int) (mla : Int) (mle : Int) (mst : Int) (mru : Int) (mtn : Int) (mlo : Int) (mbl : Int) (mch : Int) (cs : Int → Int) (mp : Int → Int) (wi : Int → Int) (a : Int) (u : Int) (v : Int) (n : Int) (hM : MoodOK cs mp) (ha0 : 0 ≤ a) (ha4 : a < 4) (hu1 : 1 ≤ u) (hu2 : u ≤ 12) (hv1 : 1 ≤ v) (hv2 : v ≤ 10) (hn1 : 1 ≤ n) (hn2 : n ≤ 999) (hwi : ∀ w x, 0 ≤ w → w ≤ v → 1 ≤ x → x ≤ 999 → wi (1000 * (11 * (u - 1) + w) + x) = WN cs mp (u - 1).toNat w x)  : Met l yX10_winsBy wsX10_winsBy ({ frames := 2, cells := 0, slots := 0, locals := 46 } : Room) (va_Pc [.ref h, .int (nZ a), .int (nZ u), .int (nZ v), .int (nZ n)] (RoP D cI cJ tn [(h, .inr (10, [.int (nZ mo), .int (nZ mm), .ref a2, .ref a3, .int (nZ mpr), .int (nZ mbe), .int (nZ mct), .int (nZ mco), .int (nZ mli), .int (nZ mby), .ref a10, .int (nZ mps), .int (nZ mta), .long (lZ mtk), .int (nZ mdg), .int (nZ mnu), .int (nZ mfa), .int (nZ mrm), .ref a18, .int (nZ mfm), .ref a20, .ref a21, .int (nZ mev), .ref a23, .ref a24, .ref a25, .int (nZ mmt), .ref a27, .ref a28, .ref a29, .int (nZ mla), .ref a31, .ref a32, .int (nZ mle), .int (nZ mst), .int (nZ mru), .int (nZ mtn), .int (nZ mlo), .int (nZ mbl), .int (nZ mch)])), (a2, .inl (cI, 4, .inl (aZ cs))), (a3, .inl (cI, 48, .inl (aZ mp))), (a32, .inl (cJ, 143000, .inr (.inl (bZ wi))))])) (vp_Sl (fun r9 : Int64 => r9 = lZ (WNin cs mp a (u - 1).toNat v n))) 0 0 (fun _ => False) := by
  refine Met.ofW (cc := cX10_winsBy) (maxL := 9) (ret := (some .long)) (by decide) rfl ?_
  intro p e s m args below meth c s₁ B hml hv
  obtain ⟨rfl, hE, hP⟩ := hv
  have hx := B.exec
  have hb := B.bytes
  have hr := B.returns
  have hts := atoms_spec (ws := wsX10_winsBy) B.pre
  have hown : s.vm.findClass RX10 = some m.cls := findClass_of_methodNamed B.named
  have hlocks := B.notSynchronized
  have hS : va_S (fun _ => False) s.heap s.heap [] := va_S.rf
  have hK := hE.1
  have hN := hE.2.1
  have hl := lv_entry ([.ref h, .int (nZ a), .int (nZ u), .int (nZ v), .int (nZ n)]) (n := 9) (Nat.le_of_ble_eq_true rfl)
  rw [lg_entry_eq]
  generalize (lg_sl ([.ref h, .int (nZ a), .int (nZ u), .int (nZ v), .int (nZ n)]) ++ List.replicate (9 - (lg_sl ([.ref h, .int (nZ a), .int (nZ u), .int (nZ v), .int (nZ n)])).length) Slot.unset).toArray = ls at hl ⊢
  have hl : lv_has ls 9 [(0, .ref h), (1, .int (nZ a)), (2, .int (nZ u)), (3, .int (nZ v)), (4, .int (nZ n))] := hl
  have iX10 : ∀ w ∈ u_ws RX10 TX10 40, w ∈ wsX10_winsBy := fun _ h => List.mem_cons_of_mem _ (List.mem_append_right _ h)
  refine lv_lconst (v := lZ 0) hx hb dX10_winsBy_0 rfl ?_
  refine lv_lstore (lv' := [(5, .long (lZ 0)), (0, .ref h), (1, .int (nZ a)), (2, .int (nZ u)), (3, .int (nZ v)), (4, .int (nZ n))]) hx hb dX10_winsBy_1 hl (by decide) rfl (fun ls hl => ?_)
  refine lv_iconst (v := nZ 0) hx hb dX10_winsBy_3 rfl ?_
  refine lv_istore (lv' := [(7, .int (nZ 0)), (5, .long (lZ 0)), (0, .ref h), (1, .int (nZ a)), (2, .int (nZ u)), (3, .int (nZ v)), (4, .int (nZ n))]) hx hb dX10_winsBy_4 hl (by decide) rfl (fun ls hl => ?_)
  refine z_rloop2 (fun (k : Int) (i : Int) => (0 ≤ i) ∧ (i ≤ cs a) ∧ (k = sumN (wnT cs mp a (u - 1).toNat v n) i.toNat)) (fun (k : Int) (i : Int) => (cs a - i).toNat) (fun (k : Int) (i : Int) => [(0, .ref h), (1, .int (nZ a)), (2, .int (nZ u)), (3, .int (nZ v)), (4, .int (nZ n)), (5, .long (lZ k)), (7, .int (nZ i))]) ?_ 0 0 ⟨(by first | assumption | omega), (hM a ha0 ha4).1.1, rfl⟩ (lv_sub hl [2, 3, 4, 5, 6, 1, 0] rfl)
  intro k i hI6 ih6 ls hl
  have hl : lv_has ls 9 [(0, .ref h), (1, .int (nZ a)), (2, .int (nZ u)), (3, .int (nZ v)), (4, .int (nZ n)), (5, .long (lZ k)), (7, .int (nZ i))] := hl
  obtain ⟨hi0, hi1, hk⟩ : (0 ≤ i) ∧ (i ≤ cs a) ∧ (k = sumN (wnT cs mp a (u - 1).toNat v n) i.toNat) := hI6
  have hca := (hM a ha0 ha4).1
  refine lv_iload hx hb dX10_winsBy_6 (lv_at hl 6 rfl) ?_
  refine lv_aload_n hx hb dX10_winsBy_8 rfl (lv_at hl 0 rfl) ?_
  refine va_get (D := D) (ci := 10) (v := .ref a2) (C := RX10) (T := TX10) (N := 40) hx hb hts iX10 hown hK hP 0 rfl rfl 2 (by decide) (hts (.fieldLink RX10 16 "RainTargetModel" "cases" "[I") (List.mem_of_getElem? (i := 1) rfl)) (fun _ h9 => h9) rfl dX10_winsBy_9 ?_
  refine lv_iload_n hx hb dX10_winsBy_12 rfl (lv_at hl 1 rfl) ?_
  refine z_iald hx hb hK hP 1 0 rfl rfl (by omega) (by omega) (by omega) dX10_winsBy_13 ?_
  refine z_icmp_ge (tgt := 80) hx hb dX10_winsBy_14 (by decide) (by omega) (by omega) (fun c_14 => ?_) (fun c_14 => ?_)
  · refine lv_lload hx hb dX10_winsBy_80 (lv_at hl 5 rfl) ?_
    exact W.lret (v := lZ k) hx hb hr (fun t9 ht9 _ => ⟨lZ k, rfl, congrArg lZ (show (k : Int) = WNin cs mp a (u - 1).toNat v n from (by rw [hk, show i = cs a from by omega]; rfl)), ht9⟩) (fun _ h => by cases h) dX10_winsBy_82
  · have hi2 : i < cs a := by omega
    have hcase := (hM a ha0 ha4).2.1 i hi0 hi2
    refine lv_bipush (v := nZ 12) hx hb dX10_winsBy_17 (by decide) ?_
    refine lv_iload_n hx hb dX10_winsBy_19 rfl (lv_at hl 1 rfl) ?_
    refine z_imul hx hb dX10_winsBy_20 ?_
    refine lv_iconst (v := nZ 3) hx hb dX10_winsBy_21 rfl ?_
    refine lv_iload hx hb dX10_winsBy_22 (lv_at hl 6 rfl) ?_
    refine z_imul hx hb dX10_winsBy_24 ?_
    refine z_iadd hx hb dX10_winsBy_25 ?_
    refine lv_istore (lv' := [(8, .int (nZ ((12 * a) + (3 * i)))), (0, .ref h), (1, .int (nZ a)), (2, .int (nZ u)), (3, .int (nZ v)), (4, .int (nZ n)), (5, .long (lZ k)), (7, .int (nZ i))]) hx hb dX10_winsBy_26 hl (by decide) rfl (fun ls hl => ?_)
    refine lv_lload hx hb dX10_winsBy_28 (lv_at hl 6 rfl) ?_
    refine lv_aload_n hx hb dX10_winsBy_30 rfl (lv_at hl 1 rfl) ?_
    refine va_get (D := D) (ci := 10) (v := .ref a3) (C := RX10) (T := TX10) (N := 40) hx hb hts iX10 hown hK hP 0 rfl rfl 3 (by decide) (hts (.fieldLink RX10 20 "RainTargetModel" "mood" "[I") (List.mem_of_getElem? (i := 2) rfl)) (fun _ h9 => h9) rfl dX10_winsBy_31 ?_
    refine lv_iload hx hb dX10_winsBy_34 (lv_at hl 0 rfl) ?_
    refine lv_iconst (v := nZ 2) hx hb dX10_winsBy_36 rfl ?_
    refine z_iadd hx hb dX10_winsBy_37 ?_
    refine z_iald hx hb hK hP 2 0 rfl rfl (by omega) (by omega) (by omega) dX10_winsBy_38 ?_
    refine z_i2l hx hb dX10_winsBy_39 (by omega) ?_
    refine lv_aload_n hx hb dX10_winsBy_40 rfl (lv_at hl 1 rfl) ?_
    refine lv_iload_n hx hb dX10_winsBy_41 rfl (lv_at hl 3 rfl) ?_
    refine lv_iconst (v := nZ 1) hx hb dX10_winsBy_42 rfl ?_
    refine z_isub hx hb dX10_winsBy_43 ?_
    refine lv_iload_n hx hb dX10_winsBy_44 rfl (lv_at hl 4 rfl) ?_
    refine lv_aload_n hx hb dX10_winsBy_45 rfl (lv_at hl 1 rfl) ?_
    refine va_get (D := D) (ci := 10) (v := .ref a3) (C := RX10) (T := TX10) (N := 40) hx hb hts iX10 hown hK hP 0 rfl rfl 3 (by decide) (hts (.fieldLink RX10 20 "RainTargetModel" "mood" "[I") (List.mem_of_getElem? (i := 2) rfl)) (fun _ h9 => h9) rfl dX10_winsBy_46 ?_
    refine lv_iload hx hb dX10_winsBy_49 (lv_at hl 0 rfl) ?_
    refine lv_iconst (v := nZ 1) hx hb dX10_winsBy_51 rfl ?_
    refine z_iadd hx hb dX10_winsBy_52 ?_
    refine z_iald hx hb hK hP 2 0 rfl rfl (by omega) (by omega) (by omega) dX10_winsBy_53 ?_
    refine vp_callSi ((va_runS (As := [.int (nZ v), .int (nZ (mp (((12 * a) + (3 * i)) + 1)))]) (rest := [.int (nZ (u - 1)), .ref h, .long (lZ (mp (((12 * a) + (3 * i)) + 2))), .long (lZ k)]) ⟨hx, hb, hml, hown, hts⟩ (c_X10_rest l D cI cJ tn v (mp (((12 * a) + (3 * i)) + 1)) (by omega) (by omega) ) (va_cwS 2 hts gX10_winsBy_X10_rest rfl rfl rfl (by decide +kernel) ⟨Nat.le_of_ble_eq_true rfl, Nat.le_of_ble_eq_true rfl⟩) ⟨RoP.blind, fun U hU hW => ⟨rfl, RoP.call hE hS (hP.sub (ws' := []) [] rfl) hU hW⟩⟩ rfl rfl hl.1 rfl (lv_room (Nat.le_of_ble_eq_true rfl)) dX10_winsBy_54 ⟨Nat.le_of_ble_eq_true rfl, Nat.le_of_ble_eq_true rfl⟩).run) (fun r54 hr54 => ?_)
    subst hr54
    refine z_nameI (fun r54 er54 => ?_)
    refine lv_iload hx hb dX10_winsBy_57 (lv_at hl 5 rfl) ?_
    refine lv_aload_n hx hb dX10_winsBy_59 rfl (lv_at hl 1 rfl) ?_
    refine va_get (D := D) (ci := 10) (v := .ref a3) (C := RX10) (T := TX10) (N := 40) hx hb hts iX10 hown hK hP 0 rfl rfl 3 (by decide) (hts (.fieldLink RX10 20 "RainTargetModel" "mood" "[I") (List.mem_of_getElem? (i := 2) rfl)) (fun _ h9 => h9) rfl dX10_winsBy_60 ?_
    refine lv_iload hx hb dX10_winsBy_63 (lv_at hl 0 rfl) ?_
    refine z_iald hx hb hK hP 2 0 rfl rfl (by omega) (by omega) (by omega) dX10_winsBy_65 ?_
    refine z_isub hx hb dX10_winsBy_66 ?_
    refine vp_callSl ((va_runV (As := [.int (nZ (u - 1)), .int (nZ r54), .int (nZ (n - (mp ((12 * a) + (3 * i)))))]) (rest := [.long (lZ (mp (((12 * a) + (3 * i)) + 2))), .long (lZ k)]) ⟨hx, hb, hml, hown, hts⟩ (c_X10_winsOf l D cI cJ tn h a2 a3 a10 a18 a20 a21 a23 a24 a25 a27 a28 a29 a31 a32 mo mm mpr mbe mct mco mli mby mps mta mtk mdg mnu mfa mrm mfm mev mmt mla mle mst mru mtn mlo mbl mch wi (u - 1) r54 (n - (mp ((12 * a) + (3 * i)))) (by first | assumption | omega) (by first | assumption | omega) (by first | assumption | omega) (by first | assumption | omega) (by first | assumption | omega) (by first | assumption | omega) ) (cwV 3 hts gX10_winsBy_X10_winsOf rfl rfl rfl (by decide +kernel) ⟨Nat.le_of_ble_eq_true rfl, Nat.le_of_ble_eq_true rfl⟩) ⟨RoP.blind, va_recv hK hP (ci := 10) (q0 := 0) rfl rfl, fun U hU hW => ⟨rfl, RoP.call hE hS (hP.sub (ws' := [(h, .inr (10, [.int (nZ mo), .int (nZ mm), .ref a2, .ref a3, .int (nZ mpr), .int (nZ mbe), .int (nZ mct), .int (nZ mco), .int (nZ mli), .int (nZ mby), .ref a10, .int (nZ mps), .int (nZ mta), .long (lZ mtk), .int (nZ mdg), .int (nZ mnu), .int (nZ mfa), .int (nZ mrm), .ref a18, .int (nZ mfm), .ref a20, .ref a21, .int (nZ mev), .ref a23, .ref a24, .ref a25, .int (nZ mmt), .ref a27, .ref a28, .ref a29, .int (nZ mla), .ref a31, .ref a32, .int (nZ mle), .int (nZ mst), .int (nZ mru), .int (nZ mtn), .int (nZ mlo), .int (nZ mbl), .int (nZ mch)])), (a32, .inl (cJ, 143000, .inr (.inl (bZ wi))))]) [0, 3] rfl) hU hW⟩⟩ rfl rfl hl.1 rfl (lv_room (Nat.le_of_ble_eq_true rfl)) dX10_winsBy_67 ⟨Nat.le_of_ble_eq_true rfl, Nat.le_of_ble_eq_true rfl⟩).run) (fun r67 hr67 => ?_)
    subst hr67
    refine z_nameL (fun r67 er67 => ?_)
    refine z_lmul hx hb dX10_winsBy_70 ?_
    refine z_ladd hx hb dX10_winsBy_71 ?_
    refine lv_lstore (lv' := [(5, .long (lZ (k + ((mp (((12 * a) + (3 * i)) + 2)) * r67)))), (8, .int (nZ ((12 * a) + (3 * i)))), (0, .ref h), (1, .int (nZ a)), (2, .int (nZ u)), (3, .int (nZ v)), (4, .int (nZ n)), (7, .int (nZ i))]) hx hb dX10_winsBy_72 hl (by decide) rfl (fun ls hl => ?_)
    have hterm : mp (12 * a + 3 * i + 2) * r67 = wnT cs mp a (u - 1).toNat v n i := by
      unfold wnT
      rw [er67, er54]
      by_cases q2 : n - mp (12 * a + 3 * i) ≤ 0
      · rw [if_pos q2, WN_got cs mp _ _ q2]
      · rw [if_neg q2]
        by_cases q : v < mp (12 * a + 3 * i + 1)
        · rw [if_pos q, hwi 0 _ (by omega) (by omega) (by omega) (by omega), WN_men cs mp _ (by omega) (by omega), WN_men cs mp _ (by omega) (by omega)]
        · rw [if_neg q, hwi _ _ (by omega) (by omega) (by omega) (by omega)]
    refine lv_iinc (v := nZ (i + 1)) (lv' := [(7, .int (nZ (i + 1))), (5, .long (lZ (k + ((mp (((12 * a) + (3 * i)) + 2)) * r67)))), (8, .int (nZ ((12 * a) + (3 * i)))), (0, .ref h), (1, .int (nZ a)), (2, .int (nZ u)), (3, .int (nZ v)), (4, .int (nZ n))]) hx hb dX10_winsBy_74 hl (k := 7) rfl (nZ_add _ _) (by decide) rfl (fun ls hl => ?_)
    refine lv_goto (tgt := 6) hx hb dX10_winsBy_77 (by decide) ?_
    exact ih6 (k + ((mp (((12 * a) + (3 * i)) + 2)) * r67)) (i + 1) ⟨(by first | assumption | omega), (by first | assumption | omega), (by rw [sumN_s0 _ hi0, hk, ← hterm])⟩ (show (cs a - (i + 1)).toNat < (cs a - i).toNat from by omega) ls (lv_sub hl [3, 4, 5, 6, 7, 1, 0] rfl)

set_option maxHeartbeats 4000000 in
set_option maxRecDepth 100000 in
theorem c_X10_layWins (l : Launch) (D : va_G) (cI cJ : ClassId) (tn : Nat) (sz : Nat) (h : Nat) (a2 : Nat) (a3 : Nat) (a10 : Nat) (a18 : Nat) (a20 : Nat) (a21 : Nat) (a23 : Nat) (a24 : Nat) (a25 : Nat) (a27 : Nat) (a28 : Nat) (a29 : Nat) (a31 : Nat) (a32 : Nat) (mo : Int) (mm : Int) (mpr : Int) (mbe : Int) (mct : Int) (mco : Int) (mli : Int) (mby : Int) (mps : Int) (mta : Int) (mtk : Int) (mdg : Int) (mnu : Int) (mfa : Int) (mrm : Int) (mfm : Int) (mev : Int) (mmt : Int) (mla : Int) (mle : Int) (mst : Int) (mru : Int) (mtn : Int) (mlo : Int) (mbl : Int) (mch : Int) (cs : Int → Int) (mp : Int → Int) (wi : Int → Int) (a : Int) (u : Int) (v : Int) (hM : MoodOK cs mp) (ha0 : 0 ≤ a) (ha4 : a < 4) (hu1 : 1 ≤ u) (hu2 : u ≤ 12) (hv1 : 1 ≤ v) (hv2 : v ≤ 10) (hwi : ∀ w x, 0 ≤ w → w ≤ v → 1 ≤ x → x ≤ 999 → wi (1000 * (11 * (u - 1) + w) + x) = WN cs mp (u - 1).toNat w x) (hwb : ∀ x, 1 ≤ x → x ≤ 999 → 0 ≤ wi (1000 * (11 * u + v) + x) ∧ wi (1000 * (11 * u + v) + x) ≤ 1000000000000)  : Met l yX10_layWins wsX10_layWins ({ frames := 3, cells := 0, slots := 0, locals := 74 } : Room) (va_Pc [.ref h, .int (nZ a), .int (nZ u), .int (nZ v)] (WrP D cI cJ tn [(h, .inr (10, [.int (nZ mo), .int (nZ mm), .ref a2, .ref a3, .int (nZ mpr), .int (nZ mbe), .int (nZ mct), .int (nZ mco), .int (nZ mli), .int (nZ mby), .ref a10, .int (nZ mps), .int (nZ mta), .long (lZ mtk), .int (nZ mdg), .int (nZ mnu), .int (nZ mfa), .int (nZ mrm), .ref a18, .int (nZ mfm), .ref a20, .ref a21, .int (nZ mev), .ref a23, .ref a24, .ref a25, .int (nZ mmt), .ref a27, .ref a28, .ref a29, .int (nZ mla), .ref a31, .ref a32, .int (nZ mle), .int (nZ mst), .int (nZ mru), .int (nZ mtn), .int (nZ mlo), .int (nZ mbl), .int (nZ mch)])), (a2, .inl (cI, 4, .inl (aZ cs))), (a3, .inl (cI, 48, .inl (aZ mp))), (a32, .inl (cJ, 143000, .inr (.inl (bZ wi))))] sz)) (va_Qv (fun u9 : (Int → Int) => (∀ x, 1 ≤ x → x ≤ 999 → u9 (1000 * (11 * u + v) + x) = (if wi (1000 * (11 * u + v) + x) < WNin cs mp a (u - 1).toNat v x then WNin cs mp a (u - 1).toNat v x else wi (1000 * (11 * u + v) + x))) ∧ (∀ j, (j ≤ 1000 * (11 * u + v) ∨ 1000 * (11 * u + v) + 999 < j) → u9 j = wi j)) (fun u9 t9 => WrQ D (va_A [(h, .inr (10, [.int (nZ mo), .int (nZ mm), .ref a2, .ref a3, .int (nZ mpr), .int (nZ mbe), .int (nZ mct), .int (nZ mco), .int (nZ mli), .int (nZ mby), .ref a10, .int (nZ mps), .int (nZ mta), .long (lZ mtk), .int (nZ mdg), .int (nZ mnu), .int (nZ mfa), .int (nZ mrm), .ref a18, .int (nZ mfm), .ref a20, .ref a21, .int (nZ mev), .ref a23, .ref a24, .ref a25, .int (nZ mmt), .ref a27, .ref a28, .ref a29, .int (nZ mla), .ref a31, .ref a32, .int (nZ mle), .int (nZ mst), .int (nZ mru), .int (nZ mtn), .int (nZ mlo), .int (nZ mbl), .int (nZ mch)])), (a2, .inl (cI, 4, .inl (aZ cs))), (a3, .inl (cI, 48, .inl (aZ mp))), (a32, .inl (cJ, 143000, .inr (.inl (bZ wi))))] sz) [(h, .inr (10, [.int (nZ mo), .int (nZ mm), .ref a2, .ref a3, .int (nZ mpr), .int (nZ mbe), .int (nZ mct), .int (nZ mco), .int (nZ mli), .int (nZ mby), .ref a10, .int (nZ mps), .int (nZ mta), .long (lZ mtk), .int (nZ mdg), .int (nZ mnu), .int (nZ mfa), .int (nZ mrm), .ref a18, .int (nZ mfm), .ref a20, .ref a21, .int (nZ mev), .ref a23, .ref a24, .ref a25, .int (nZ mmt), .ref a27, .ref a28, .ref a29, .int (nZ mla), .ref a31, .ref a32, .int (nZ mle), .int (nZ mst), .int (nZ mru), .int (nZ mtn), .int (nZ mlo), .int (nZ mbl), .int (nZ mch)])), (a2, .inl (cI, 4, .inl (aZ cs))), (a3, .inl (cI, 48, .inl (aZ mp))), (a32, .inl (cJ, 143000, .inr (.inl (bZ u9))))] t9) (va_A [(h, .inr (10, [.int (nZ mo), .int (nZ mm), .ref a2, .ref a3, .int (nZ mpr), .int (nZ mbe), .int (nZ mct), .int (nZ mco), .int (nZ mli), .int (nZ mby), .ref a10, .int (nZ mps), .int (nZ mta), .long (lZ mtk), .int (nZ mdg), .int (nZ mnu), .int (nZ mfa), .int (nZ mrm), .ref a18, .int (nZ mfm), .ref a20, .ref a21, .int (nZ mev), .ref a23, .ref a24, .ref a25, .int (nZ mmt), .ref a27, .ref a28, .ref a29, .int (nZ mla), .ref a31, .ref a32, .int (nZ mle), .int (nZ mst), .int (nZ mru), .int (nZ mtn), .int (nZ mlo), .int (nZ mbl), .int (nZ mch)])), (a2, .inl (cI, 4, .inl (aZ cs))), (a3, .inl (cI, 48, .inl (aZ mp))), (a32, .inl (cJ, 143000, .inr (.inl (bZ wi))))] sz)) 0 0 (va_A [(h, .inr (10, [.int (nZ mo), .int (nZ mm), .ref a2, .ref a3, .int (nZ mpr), .int (nZ mbe), .int (nZ mct), .int (nZ mco), .int (nZ mli), .int (nZ mby), .ref a10, .int (nZ mps), .int (nZ mta), .long (lZ mtk), .int (nZ mdg), .int (nZ mnu), .int (nZ mfa), .int (nZ mrm), .ref a18, .int (nZ mfm), .ref a20, .ref a21, .int (nZ mev), .ref a23, .ref a24, .ref a25, .int (nZ mmt), .ref a27, .ref a28, .ref a29, .int (nZ mla), .ref a31, .ref a32, .int (nZ mle), .int (nZ mst), .int (nZ mru), .int (nZ mtn), .int (nZ mlo), .int (nZ mbl), .int (nZ mch)])), (a2, .inl (cI, 4, .inl (aZ cs))), (a3, .inl (cI, 48, .inl (aZ mp))), (a32, .inl (cJ, 143000, .inr (.inl (bZ wi))))] sz) := by
  refine Met.ofW (cc := cX10_layWins) (maxL := 6) (ret := none) (by decide) rfl ?_
  intro p e s m args below meth c s₁ B hml hv
  obtain ⟨rfl, hsz, hE, hP, hD0⟩ := hv
  have hx := B.exec
  have hb := B.bytes
  have hr := B.returns
  have hts := atoms_spec (ws := wsX10_layWins) B.pre
  have hown : s.vm.findClass RX10 = some m.cls := findClass_of_methodNamed B.named
  have hlocks := B.notSynchronized
  subst hsz
  have hD := hD0.self (sz := s.heap.size)
  generalize hAe : va_A [(h, .inr (10, [.int (nZ mo), .int (nZ mm), .ref a2, .ref a3, .int (nZ mpr), .int (nZ mbe), .int (nZ mct), .int (nZ mco), .int (nZ mli), .int (nZ mby), .ref a10, .int (nZ mps), .int (nZ mta), .long (lZ mtk), .int (nZ mdg), .int (nZ mnu), .int (nZ mfa), .int (nZ mrm), .ref a18, .int (nZ mfm), .ref a20, .ref a21, .int (nZ mev), .ref a23, .ref a24, .ref a25, .int (nZ mmt), .ref a27, .ref a28, .ref a29, .int (nZ mla), .ref a31, .ref a32, .int (nZ mle), .int (nZ mst), .int (nZ mru), .int (nZ mtn), .int (nZ mlo), .int (nZ mbl), .int (nZ mch)])), (a2, .inl (cI, 4, .inl (aZ cs))), (a3, .inl (cI, 48, .inl (aZ mp))), (a32, .inl (cJ, 143000, .inr (.inl (bZ wi))))] s.heap.size = A at hD hE ⊢
  have hA : ∀ q : Nat, s.heap.size ≤ q → A q := fun q h => by rw [← hAe]; exact Or.inr h
  have hS : va_S A s.heap s.heap [] := va_S.rf
  have hK := hE.1
  have hN := hE.2.1
  have hl := lv_entry ([.ref h, .int (nZ a), .int (nZ u), .int (nZ v)]) (n := 6) (Nat.le_of_ble_eq_true rfl)
  rw [lg_entry_eq]
  generalize (lg_sl ([.ref h, .int (nZ a), .int (nZ u), .int (nZ v)]) ++ List.replicate (6 - (lg_sl ([.ref h, .int (nZ a), .int (nZ u), .int (nZ v)])).length) Slot.unset).toArray = ls at hl ⊢
  have hl : lv_has ls 6 [(0, .ref h), (1, .int (nZ a)), (2, .int (nZ u)), (3, .int (nZ v))] := hl
  have iX10 : ∀ w ∈ u_ws RX10 TX10 40, w ∈ wsX10_layWins := fun _ h => List.mem_cons_of_mem _ (List.mem_append_right _ h)
  refine lv_iconst (v := nZ 1) hx hb dX10_layWins_0 rfl ?_
  refine lv_istore (lv' := [(4, .int (nZ 1)), (0, .ref h), (1, .int (nZ a)), (2, .int (nZ u)), (3, .int (nZ v))]) hx hb dX10_layWins_1 hl (by decide) rfl (fun ls hl => ?_)
  refine z_loop2 (fun (wb : Int → Int) (i : Int) => (1 ≤ i) ∧ (i ≤ 1000) ∧ (∀ x, 1 ≤ x → x < i → wb (1000 * (11 * u + v) + x) = (if wi (1000 * (11 * u + v) + x) < WNin cs mp a (u - 1).toNat v x then WNin cs mp a (u - 1).toNat v x else wi (1000 * (11 * u + v) + x))) ∧ (∀ x, i ≤ x → x ≤ 999 → wb (1000 * (11 * u + v) + x) = wi (1000 * (11 * u + v) + x)) ∧ (∀ j, (j ≤ 1000 * (11 * u + v) ∨ 1000 * (11 * u + v) + 999 < j) → wb j = wi j)) (fun (wb : Int → Int) (i : Int) => (1000 - i).toNat) (fun (wb : Int → Int) (i : Int) => [(h, .inr (10, [.int (nZ mo), .int (nZ mm), .ref a2, .ref a3, .int (nZ mpr), .int (nZ mbe), .int (nZ mct), .int (nZ mco), .int (nZ mli), .int (nZ mby), .ref a10, .int (nZ mps), .int (nZ mta), .long (lZ mtk), .int (nZ mdg), .int (nZ mnu), .int (nZ mfa), .int (nZ mrm), .ref a18, .int (nZ mfm), .ref a20, .ref a21, .int (nZ mev), .ref a23, .ref a24, .ref a25, .int (nZ mmt), .ref a27, .ref a28, .ref a29, .int (nZ mla), .ref a31, .ref a32, .int (nZ mle), .int (nZ mst), .int (nZ mru), .int (nZ mtn), .int (nZ mlo), .int (nZ mbl), .int (nZ mch)])), (a2, .inl (cI, 4, .inl (aZ cs))), (a3, .inl (cI, 48, .inl (aZ mp))), (a32, .inl (cJ, 143000, .inr (.inl (bZ wb))))]) (fun (wb : Int → Int) (i : Int) => [(0, .ref h), (1, .int (nZ a)), (2, .int (nZ u)), (3, .int (nZ v)), (4, .int (nZ i))]) ?_ wi 1 ⟨(by first | assumption | omega), (by first | assumption | omega), (fun x p1 p2 => by omega), (fun x _ _ => rfl), (fun j _ => rfl)⟩ (hP.sub [0, 1, 2, 3] rfl) (hD.sub [0, 1, 2, 3] (by decide) rfl) hS (lv_sub hl [1, 2, 3, 4, 0] rfl)
  intro wb i hI3 ih3 H locs ls hP hD hS hl
  have hP : va_P D vwCl [(h, .inr (10, [.int (nZ mo), .int (nZ mm), .ref a2, .ref a3, .int (nZ mpr), .int (nZ mbe), .int (nZ mct), .int (nZ mco), .int (nZ mli), .int (nZ mby), .ref a10, .int (nZ mps), .int (nZ mta), .long (lZ mtk), .int (nZ mdg), .int (nZ mnu), .int (nZ mfa), .int (nZ mrm), .ref a18, .int (nZ mfm), .ref a20, .ref a21, .int (nZ mev), .ref a23, .ref a24, .ref a25, .int (nZ mmt), .ref a27, .ref a28, .ref a29, .int (nZ mla), .ref a31, .ref a32, .int (nZ mle), .int (nZ mst), .int (nZ mru), .int (nZ mtn), .int (nZ mlo), .int (nZ mbl), .int (nZ mch)])), (a2, .inl (cI, 4, .inl (aZ cs))), (a3, .inl (cI, 48, .inl (aZ mp))), (a32, .inl (cJ, 143000, .inr (.inl (bZ wb))))] H := hP
  have hD : va_D A [(h, .inr (10, [.int (nZ mo), .int (nZ mm), .ref a2, .ref a3, .int (nZ mpr), .int (nZ mbe), .int (nZ mct), .int (nZ mco), .int (nZ mli), .int (nZ mby), .ref a10, .int (nZ mps), .int (nZ mta), .long (lZ mtk), .int (nZ mdg), .int (nZ mnu), .int (nZ mfa), .int (nZ mrm), .ref a18, .int (nZ mfm), .ref a20, .ref a21, .int (nZ mev), .ref a23, .ref a24, .ref a25, .int (nZ mmt), .ref a27, .ref a28, .ref a29, .int (nZ mla), .ref a31, .ref a32, .int (nZ mle), .int (nZ mst), .int (nZ mru), .int (nZ mtn), .int (nZ mlo), .int (nZ mbl), .int (nZ mch)])), (a2, .inl (cI, 4, .inl (aZ cs))), (a3, .inl (cI, 48, .inl (aZ mp))), (a32, .inl (cJ, 143000, .inr (.inl (bZ wb))))] := hD
  have hl : lv_has ls 6 [(0, .ref h), (1, .int (nZ a)), (2, .int (nZ u)), (3, .int (nZ v)), (4, .int (nZ i))] := hl
  obtain ⟨hi1, hi2, hdo, hko2, hko⟩ : (1 ≤ i) ∧ (i ≤ 1000) ∧ (∀ x, 1 ≤ x → x < i → wb (1000 * (11 * u + v) + x) = (if wi (1000 * (11 * u + v) + x) < WNin cs mp a (u - 1).toNat v x then WNin cs mp a (u - 1).toNat v x else wi (1000 * (11 * u + v) + x))) ∧ (∀ x, i ≤ x → x ≤ 999 → wb (1000 * (11 * u + v) + x) = wi (1000 * (11 * u + v) + x)) ∧ (∀ j, (j ≤ 1000 * (11 * u + v) ∨ 1000 * (11 * u + v) + 999 < j) → wb j = wi j) := hI3
  refine lv_iload hx hb dX10_layWins_3 (lv_at hl 4 rfl) ?_
  refine lv_sipush (v := nZ 1000) hx hb dX10_layWins_5 (by decide) ?_
  refine z_icmp_ge (tgt := 58) hx hb dX10_layWins_8 (by decide) (by omega) (by decide) (fun c_8 => ?_) (fun c_8 => ?_)
  · have hP9 := hP.sub (ws' := [(h, .inr (10, [.int (nZ mo), .int (nZ mm), .ref a2, .ref a3, .int (nZ mpr), .int (nZ mbe), .int (nZ mct), .int (nZ mco), .int (nZ mli), .int (nZ mby), .ref a10, .int (nZ mps), .int (nZ mta), .long (lZ mtk), .int (nZ mdg), .int (nZ mnu), .int (nZ mfa), .int (nZ mrm), .ref a18, .int (nZ mfm), .ref a20, .ref a21, .int (nZ mev), .ref a23, .ref a24, .ref a25, .int (nZ mmt), .ref a27, .ref a28, .ref a29, .int (nZ mla), .ref a31, .ref a32, .int (nZ mle), .int (nZ mst), .int (nZ mru), .int (nZ mtn), .int (nZ mlo), .int (nZ mbl), .int (nZ mch)])), (a2, .inl (cI, 4, .inl (aZ cs))), (a3, .inl (cI, 48, .inl (aZ mp))), (a32, .inl (cJ, 143000, .inr (.inl (bZ wb))))]) [0, 1, 2, 3] rfl
    have hD9 := hD.sub (ws' := [(h, .inr (10, [.int (nZ mo), .int (nZ mm), .ref a2, .ref a3, .int (nZ mpr), .int (nZ mbe), .int (nZ mct), .int (nZ mco), .int (nZ mli), .int (nZ mby), .ref a10, .int (nZ mps), .int (nZ mta), .long (lZ mtk), .int (nZ mdg), .int (nZ mnu), .int (nZ mfa), .int (nZ mrm), .ref a18, .int (nZ mfm), .ref a20, .ref a21, .int (nZ mev), .ref a23, .ref a24, .ref a25, .int (nZ mmt), .ref a27, .ref a28, .ref a29, .int (nZ mla), .ref a31, .ref a32, .int (nZ mle), .int (nZ mst), .int (nZ mru), .int (nZ mtn), .int (nZ mlo), .int (nZ mbl), .int (nZ mch)])), (a2, .inl (cI, 4, .inl (aZ cs))), (a3, .inl (cI, 48, .inl (aZ mp))), (a32, .inl (cJ, 143000, .inr (.inl (bZ wb))))]) [0, 1, 2, 3] (by decide) rfl
    exact W.vret hx hb hr (fun t9 ht9 _ => ⟨⟨(wb), rfl, ⟨fun x p1 p2 => hdo x p1 (by omega), hko⟩, ⟨by rw [ht9]; exact hP9, hD9⟩⟩, hS.F ht9⟩) hS.2.2 dX10_layWins_58
  · refine lv_sipush (v := nZ 1000) hx hb dX10_layWins_11 (by decide) ?_
    refine lv_bipush (v := nZ 11) hx hb dX10_layWins_14 (by decide) ?_
    refine lv_iload_n hx hb dX10_layWins_16 rfl (lv_at hl 2 rfl) ?_
    refine z_imul hx hb dX10_layWins_17 ?_
    refine lv_iload_n hx hb dX10_layWins_18 rfl (lv_at hl 3 rfl) ?_
    refine z_iadd hx hb dX10_layWins_19 ?_
    refine z_imul hx hb dX10_layWins_20 ?_
    refine lv_iload hx hb dX10_layWins_21 (lv_at hl 4 rfl) ?_
    refine z_iadd hx hb dX10_layWins_23 ?_
    refine lv_istore (lv' := [(5, .int (nZ ((1000 * ((11 * u) + v)) + i))), (0, .ref h), (1, .int (nZ a)), (2, .int (nZ u)), (3, .int (nZ v)), (4, .int (nZ i))]) hx hb dX10_layWins_24 hl (by decide) rfl (fun ls hl => ?_)
    refine lv_aload_n hx hb dX10_layWins_26 rfl (lv_at hl 1 rfl) ?_
    refine va_get (D := D) (ci := 10) (v := .ref a32) (C := RX10) (T := TX10) (N := 40) hx hb hts iX10 hown hK hP 0 rfl rfl 32 (by decide) (hts (.fieldLink RX10 67 "RainTargetModel" "wins" "[J") (List.mem_of_getElem? (i := 1) rfl)) (fun _ h9 => h9) rfl dX10_layWins_27 ?_
    refine lv_iload hx hb dX10_layWins_30 (lv_at hl 0 rfl) ?_
    refine lv_aload_n hx hb dX10_layWins_32 rfl (lv_at hl 1 rfl) ?_
    refine va_get (D := D) (ci := 10) (v := .ref a32) (C := RX10) (T := TX10) (N := 40) hx hb hts iX10 hown hK hP 0 rfl rfl 32 (by decide) (hts (.fieldLink RX10 67 "RainTargetModel" "wins" "[J") (List.mem_of_getElem? (i := 1) rfl)) (fun _ h9 => h9) rfl dX10_layWins_33 ?_
    refine lv_iload hx hb dX10_layWins_36 (lv_at hl 0 rfl) ?_
    refine z_lald hx hb hK hP 3 1 rfl rfl (by omega) (by omega) (by omega) dX10_layWins_38 ?_
    have hcur : wb (1000 * (11 * u + v) + i) = wi (1000 * (11 * u + v) + i) := hko2 i (Int.le_refl _) (by omega)
    have hwb1 := hwb i hi1 (by omega)
    refine lv_aload_n hx hb dX10_layWins_39 rfl (lv_at hl 1 rfl) ?_
    refine lv_iload_n hx hb dX10_layWins_40 rfl (lv_at hl 2 rfl) ?_
    refine lv_iload_n hx hb dX10_layWins_41 rfl (lv_at hl 3 rfl) ?_
    refine lv_iload_n hx hb dX10_layWins_42 rfl (lv_at hl 4 rfl) ?_
    refine lv_iload hx hb dX10_layWins_43 (lv_at hl 5 rfl) ?_
    refine vp_callSl ((va_runV (As := [.int (nZ a), .int (nZ u), .int (nZ v), .int (nZ i)]) (rest := [.long (lZ (wb ((1000 * ((11 * u) + v)) + i))), .int (nZ ((1000 * ((11 * u) + v)) + i)), .ref a32]) ⟨hx, hb, hml, hown, hts⟩ (c_X10_winsBy l D cI cJ tn h a2 a3 a10 a18 a20 a21 a23 a24 a25 a27 a28 a29 a31 a32 mo mm mpr mbe mct mco mli mby mps mta mtk mdg mnu mfa mrm mfm mev mmt mla mle mst mru mtn mlo mbl mch cs mp wb a u v i hM ha0 ha4 hu1 hu2 hv1 hv2 (by first | assumption | omega) (by first | assumption | omega) (fun w x p1 p2 p3 p4 => by rw [hko _ (by omega)]; exact hwi w x p1 p2 p3 p4) ) (cwV 4 hts gX10_layWins_X10_winsBy rfl rfl rfl (by decide +kernel) ⟨Nat.le_of_ble_eq_true rfl, Nat.le_of_ble_eq_true rfl⟩) ⟨RoP.blind, va_recv hK hP (ci := 10) (q0 := 0) rfl rfl, fun U hU hW => ⟨rfl, RoP.call hE hS (hP.sub (ws' := [(h, .inr (10, [.int (nZ mo), .int (nZ mm), .ref a2, .ref a3, .int (nZ mpr), .int (nZ mbe), .int (nZ mct), .int (nZ mco), .int (nZ mli), .int (nZ mby), .ref a10, .int (nZ mps), .int (nZ mta), .long (lZ mtk), .int (nZ mdg), .int (nZ mnu), .int (nZ mfa), .int (nZ mrm), .ref a18, .int (nZ mfm), .ref a20, .ref a21, .int (nZ mev), .ref a23, .ref a24, .ref a25, .int (nZ mmt), .ref a27, .ref a28, .ref a29, .int (nZ mla), .ref a31, .ref a32, .int (nZ mle), .int (nZ mst), .int (nZ mru), .int (nZ mtn), .int (nZ mlo), .int (nZ mbl), .int (nZ mch)])), (a2, .inl (cI, 4, .inl (aZ cs))), (a3, .inl (cI, 48, .inl (aZ mp))), (a32, .inl (cJ, 143000, .inr (.inl (bZ wb))))]) [0, 1, 2, 3] rfl) hU hW⟩⟩ rfl rfl hl.1 rfl (lv_room (Nat.le_of_ble_eq_true rfl)) dX10_layWins_45 ⟨Nat.le_of_ble_eq_true rfl, Nat.le_of_ble_eq_true rfl⟩).run) (fun r45 hr45 => ?_)
    subst hr45
    refine z_nameL (fun r45 er45 => ?_)
    have hn0 := WNin_nn hM ha0 ha4 (u - 1).toNat v i
    have hn1 := WNin_top hM (k := u.toNat) (by omega) (by omega) ha0 ha4 v i
    rw [show u.toNat - 1 = (u - 1).toNat from by omega] at hn1
    refine vp_callSl ((va_runS (As := [.long (lZ (wb ((1000 * ((11 * u) + v)) + i))), .long (lZ r45)]) (rest := [.int (nZ ((1000 * ((11 * u) + v)) + i)), .ref a32]) ⟨hx, hb, hml, hown, hts⟩ (c_X10_greater l D cI cJ tn (wb ((1000 * ((11 * u) + v)) + i)) r45 (by first | assumption | omega) (by first | assumption | omega) ) (va_cwS 2 hts gX10_layWins_X10_greater rfl rfl rfl (by decide +kernel) ⟨Nat.le_of_ble_eq_true rfl, Nat.le_of_ble_eq_true rfl⟩) ⟨RoP.blind, fun U hU hW => ⟨rfl, RoP.call hE hS (hP.sub (ws' := []) [] rfl) hU hW⟩⟩ rfl rfl hl.1 rfl (lv_room (Nat.le_of_ble_eq_true rfl)) dX10_layWins_48 ⟨Nat.le_of_ble_eq_true rfl, Nat.le_of_ble_eq_true rfl⟩).run) (fun r48 hr48 => ?_)
    subst hr48
    refine z_nameL (fun r48 er48 => ?_)
    refine z_last hx hb hK hP hD hS 3 1 rfl rfl (by omega) (by omega) (by omega) dX10_layWins_51 (fun H locs hP hD hS => ?_)
    have hP : va_P D vwCl [(h, .inr (10, [.int (nZ mo), .int (nZ mm), .ref a2, .ref a3, .int (nZ mpr), .int (nZ mbe), .int (nZ mct), .int (nZ mco), .int (nZ mli), .int (nZ mby), .ref a10, .int (nZ mps), .int (nZ mta), .long (lZ mtk), .int (nZ mdg), .int (nZ mnu), .int (nZ mfa), .int (nZ mrm), .ref a18, .int (nZ mfm), .ref a20, .ref a21, .int (nZ mev), .ref a23, .ref a24, .ref a25, .int (nZ mmt), .ref a27, .ref a28, .ref a29, .int (nZ mla), .ref a31, .ref a32, .int (nZ mle), .int (nZ mst), .int (nZ mru), .int (nZ mtn), .int (nZ mlo), .int (nZ mbl), .int (nZ mch)])), (a2, .inl (cI, 4, .inl (aZ cs))), (a3, .inl (cI, 48, .inl (aZ mp))), (a32, .inl (cJ, 143000, .inr (.inl (bZ (uZ wb ((1000 * ((11 * u) + v)) + i) r48)))))] H := hP
    have hD : va_D A [(h, .inr (10, [.int (nZ mo), .int (nZ mm), .ref a2, .ref a3, .int (nZ mpr), .int (nZ mbe), .int (nZ mct), .int (nZ mco), .int (nZ mli), .int (nZ mby), .ref a10, .int (nZ mps), .int (nZ mta), .long (lZ mtk), .int (nZ mdg), .int (nZ mnu), .int (nZ mfa), .int (nZ mrm), .ref a18, .int (nZ mfm), .ref a20, .ref a21, .int (nZ mev), .ref a23, .ref a24, .ref a25, .int (nZ mmt), .ref a27, .ref a28, .ref a29, .int (nZ mla), .ref a31, .ref a32, .int (nZ mle), .int (nZ mst), .int (nZ mru), .int (nZ mtn), .int (nZ mlo), .int (nZ mbl), .int (nZ mch)])), (a2, .inl (cI, 4, .inl (aZ cs))), (a3, .inl (cI, 48, .inl (aZ mp))), (a32, .inl (cJ, 143000, .inr (.inl (bZ (uZ wb ((1000 * ((11 * u) + v)) + i) r48)))))] := hD
    refine lv_iinc (v := nZ (i + 1)) (lv' := [(4, .int (nZ (i + 1))), (5, .int (nZ ((1000 * ((11 * u) + v)) + i))), (0, .ref h), (1, .int (nZ a)), (2, .int (nZ u)), (3, .int (nZ v))]) hx hb dX10_layWins_52 hl (k := 5) rfl (nZ_add _ _) (by decide) rfl (fun ls hl => ?_)
    refine lv_goto (tgt := 3) hx hb dX10_layWins_55 (by decide) ?_
    exact ih3 (uZ wb ((1000 * ((11 * u) + v)) + i) r48) (i + 1) ⟨(by first | assumption | omega), (by first | assumption | omega), (fun x p1 p2 => if q : x = i then (by subst q; rw [uZ_s, er48, er45, hcur]; split <;> split <;> omega) else (by rw [uZ_n _ _ (by omega)]; exact hdo x p1 (by omega))), (fun x p1 p2 => by rw [uZ_n _ _ (by omega)]; exact hko2 x (by omega) p2), (fun j p1 => by rw [uZ_n _ _ (by omega)]; exact hko j p1)⟩ (show (1000 - (i + 1)).toNat < (1000 - i).toNat from by omega) _ _ ls (hP.sub [0, 1, 2, 3] rfl) (hD.sub [0, 1, 2, 3] (by decide) rfl) hS (lv_sub hl [2, 3, 4, 5, 0] rfl)

