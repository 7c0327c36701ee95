set_option maxHeartbeats 4000000 in
set_option maxRecDepth 100000 in
/-- the loop: from its head at every place of the script -/
theorem lw_loop {p : Program} {l : Launch} {e : Env} {s : State} {m : MethodId} {below : List Frame} {meth : Method} {c : Code} {D : va_G} {cI cJ : ClassId} {tn : Nat} {aK aV : Nat → Nat} {b L : Nat} {xs : Nat → Int32} {x t tq rdr wq nq g q1 p1 p2 h q2 q3 f fq s2 eq w kq mq mtq mh a2 a3 a10 a18 a20 a21 a23 a24 a25 a27 a28 a29 a31 a32 : Nat} {A : Nat → Prop} (hC : LCx p s m c D cI cJ tn aK aV b L xs A) (hA2 : ∀ q, A q → s.heap.size ≤ q) (hr : meth.sig.returnType = ret) (hlocks : meth.locks = false) : ∀ (n : Nat) (i : Int), 0 ≤ i → i ≤ (L : Int) + 5 → ((L : Int) + 10 - i).toNat < n → LHead p l e s m below meth c D cI cJ b x t tq rdr wq nq g q1 p1 p2 h q2 q3 f fq s2 eq w kq mq mtq mh a2 a3 a10 a18 a20 a21 a23 a24 a25 a27 a28 a29 a31 a32 A i := by
  intro n
  induction n with
  | zero => intro i _ _ h; exact absurd h (Nat.not_lt_zero _)
  | succ n ih =>
    intro i hi0 hiL hn
    intro tx nb wd cs mp me ch fo ev ko mt rd fi sr ki ro oo mv mw mx mn wi len li kd st en so sm sp sb sc sd sl told tot size so2 sm2 rn rule taken lost kept ms mps mta mtk mdg mnu mfa mrm mla mle mst mru mtn mlo mbl mch hT9 hS9 hM9 hF9 hE9 hA9 H locs ls hP hD hS hl
    obtain ⟨hx, hb, hml, hown, hts, hX, hbl, hbA, hA, hE, hZ, hL⟩ := id hC
    have t1 := hF9.2.2.1
    have t2 := hE9.2.2.1
    have t3 := hE9.2.2.2.1
    have t4 := hE9.2.2.2.2.1
    subst t1 t2 t3 t4
    refine lv_iload_n hx hb dL_law_18 rfl (lv_at hl 3 rfl) ?_
    refine lv_aload_n hx hb dL_law_19 rfl (lv_at hl 0 rfl) ?_
    refine va_slen hx hb hX hbl hbA hS dL_law_20 ?_
    refine z_lit (L : Int) (nZ_nat L) ?_
    refine lv_iconst (v := nZ 5) hx hb dL_law_21 rfl ?_
    refine z_isub hx hb dL_law_22 ?_
    refine z_icmp_gt (tgt := 871) hx hb dL_law_23 (by decide) (by omega) (by omega) (fun c_23 => ?_) (fun c_23 => ?_)
    · refine lv_iconst (v := 1) hx hb dL_law_871 rfl ?_
      refine va_forget (fun q hq => hA2 _ (hS.2.2 q hq)) ?_
      refine W.widen (k := 600000) (n := 7302250) (by decide) (by decide) ?_
      exact lw_ret hx hb hr hlocks dL_law_872
    · have hh := ih (i + 5) (by omega) (by omega) (by omega)
      refine lv_aload_n hx hb dL_law_26 rfl (lv_at hl 0 rfl) ?_
      refine lv_iload_n hx hb dL_law_27 rfl (lv_at hl 3 rfl) ?_
      refine z_sld hx hb hX hbl hbA hS hi0 (by omega) (by omega) dL_law_28 ?_
      refine lv_bipush (v := nZ 31) hx hb dL_law_29 (by decide) ?_
      refine lv_iand hx hb dL_law_31 ?_
      have hzb := and_bd (nZ (sv xs i)) (m := nZ 31) 5 (by decide) (by decide)
      refine z_rawi ?_
      generalize (nZ (sv xs i) &&& nZ 31).toInt = z at hzb ⊢
      have hzz : 0 ≤ z ∧ z < 32 := hzb
      by_cases w0 : z = 0
      · refine z_tabIn (off := 116) (tgt := 148) hx hb dL_law_32 w0 (by decide) (by decide) (by decide) (by decide +kernel) (by decide) ?_
        exact lw_c0 hC hi0 (by omega) hh hT9 hS9 hM9 hF9 hE9 hA9 hP hD hS hl
      by_cases w1 : z = 1
      · refine z_tabIn (off := 179) (tgt := 211) hx hb dL_law_32 w1 (by decide) (by decide) (by decide) (by decide +kernel) (by decide) ?_
        exact lw_c1 hC hi0 (by omega) hh hT9 hS9 hM9 hF9 hE9 hA9 hP hD hS hl
      by_cases w2 : z = 2
      · refine z_tabIn (off := 192) (tgt := 224) hx hb dL_law_32 w2 (by decide) (by decide) (by decide) (by decide +kernel) (by decide) ?_
        exact lw_c2 hC hi0 (by omega) hh hT9 hS9 hM9 hF9 hE9 hA9 hP hD hS hl
      by_cases w3 : z = 3
      · refine z_tabIn (off := 205) (tgt := 237) hx hb dL_law_32 w3 (by decide) (by decide) (by decide) (by decide +kernel) (by decide) ?_
        exact lw_c3 hC hi0 (by omega) hh hT9 hS9 hM9 hF9 hE9 hA9 hP hD hS hl
      by_cases w4 : z = 4
      · refine z_tabIn (off := 218) (tgt := 250) hx hb dL_law_32 w4 (by decide) (by decide) (by decide) (by decide +kernel) (by decide) ?_
        exact lw_c4 hC hi0 (by omega) hh hT9 hS9 hM9 hF9 hE9 hA9 hP hD hS hl
      by_cases w5 : z = 5
      · refine z_tabIn (off := 261) (tgt := 293) hx hb dL_law_32 w5 (by decide) (by decide) (by decide) (by decide +kernel) (by decide) ?_
        exact lw_c5 hC hi0 (by omega) hh hT9 hS9 hM9 hF9 hE9 hA9 hP hD hS hl
      by_cases w6 : z = 6
      · refine z_tabIn (off := 305) (tgt := 337) hx hb dL_law_32 w6 (by decide) (by decide) (by decide) (by decide +kernel) (by decide) ?_
        exact lw_c6 hC hi0 (by omega) hh hT9 hS9 hM9 hF9 hE9 hA9 hP hD hS hl
      by_cases w7 : z = 7
      · refine z_tabIn (off := 359) (tgt := 391) hx hb dL_law_32 w7 (by decide) (by decide) (by decide) (by decide +kernel) (by decide) ?_
        exact lw_c7 hC hi0 (by omega) hh hT9 hS9 hM9 hF9 hE9 hA9 hP hD hS hl
      by_cases w8 : z = 8
      · refine z_tabIn (off := 402) (tgt := 434) hx hb dL_law_32 w8 (by decide) (by decide) (by decide) (by decide +kernel) (by decide) ?_
        exact lw_c8 hC hi0 (by omega) hh hT9 hS9 hM9 hF9 hE9 hA9 hP hD hS hl
      by_cases w9 : z = 9
      · refine z_tabIn (off := 435) (tgt := 467) hx hb dL_law_32 w9 (by decide) (by decide) (by decide) (by decide +kernel) (by decide) ?_
        exact lw_c9 hC hi0 (by omega) hh hT9 hS9 hM9 hF9 hE9 hA9 hP hD hS hl
      by_cases w10 : z = 10
      · refine z_tabIn (off := 458) (tgt := 490) hx hb dL_law_32 w10 (by decide) (by decide) (by decide) (by decide +kernel) (by decide) ?_
        exact lw_c10 hC hi0 (by omega) hh hT9 hS9 hM9 hF9 hE9 hA9 hP hD hS hl
      by_cases w11 : z = 11
      · refine z_tabIn (off := 471) (tgt := 503) hx hb dL_law_32 w11 (by decide) (by decide) (by decide) (by decide +kernel) (by decide) ?_
        exact lw_c11 hC hi0 (by omega) hh hT9 hS9 hM9 hF9 hE9 hA9 hP hD hS hl
      by_cases w12 : z = 12
      · refine z_tabIn (off := 504) (tgt := 536) hx hb dL_law_32 w12 (by decide) (by decide) (by decide) (by decide +kernel) (by decide) ?_
        exact lw_c12 hC hi0 (by omega) hh hT9 hS9 hM9 hF9 hE9 hA9 hP hD hS hl
      by_cases w13 : z = 13
      · refine z_tabIn (off := 527) (tgt := 559) hx hb dL_law_32 w13 (by decide) (by decide) (by decide) (by decide +kernel) (by decide) ?_
        exact lw_c13 hC hi0 (by omega) hh hT9 hS9 hM9 hF9 hE9 hA9 hP hD hS hl
      by_cases w14 : z = 14
      · refine z_tabIn (off := 560) (tgt := 592) hx hb dL_law_32 w14 (by decide) (by decide) (by decide) (by decide +kernel) (by decide) ?_
        exact lw_c14 hC hi0 (by omega) hh hT9 hS9 hM9 hF9 hE9 hA9 hP hD hS hl
      by_cases w15 : z = 15
      · refine z_tabIn (off := 583) (tgt := 615) hx hb dL_law_32 w15 (by decide) (by decide) (by decide) (by decide +kernel) (by decide) ?_
        exact lw_c15 hC hi0 (by omega) hh hT9 hS9 hM9 hF9 hE9 hA9 hP hD hS hl
      by_cases w16 : z = 16
      · refine z_tabIn (off := 606) (tgt := 638) hx hb dL_law_32 w16 (by decide) (by decide) (by decide) (by decide +kernel) (by decide) ?_
        exact lw_c16 hC hi0 (by omega) hh hT9 hS9 hM9 hF9 hE9 hA9 hP hD hS hl
      by_cases w17 : z = 17
      · refine z_tabIn (off := 629) (tgt := 661) hx hb dL_law_32 w17 (by decide) (by decide) (by decide) (by decide +kernel) (by decide) ?_
        exact lw_c17 hC hi0 (by omega) hh hT9 hS9 hM9 hF9 hE9 hA9 hP hD hS hl
      by_cases w18 : z = 18
      · refine z_tabIn (off := 652) (tgt := 684) hx hb dL_law_32 w18 (by decide) (by decide) (by decide) (by decide +kernel) (by decide) ?_
        exact lw_c18 hC hi0 (by omega) hh hT9 hS9 hM9 hF9 hE9 hA9 hP hD hS hl
      by_cases w19 : z = 19
      · refine z_tabIn (off := 675) (tgt := 707) hx hb dL_law_32 w19 (by decide) (by decide) (by decide) (by decide +kernel) (by decide) ?_
        exact lw_c19 hC hi0 (by omega) hh hT9 hS9 hM9 hF9 hE9 hA9 hP hD hS hl
      by_cases w20 : z = 20
      · refine z_tabIn (off := 708) (tgt := 740) hx hb dL_law_32 w20 (by decide) (by decide) (by decide) (by decide +kernel) (by decide) ?_
        exact lw_c20 hC hi0 (by omega) hh hT9 hS9 hM9 hF9 hE9 hA9 hP hD hS hl
      by_cases w21 : z = 21
      · refine z_tabIn (off := 731) (tgt := 763) hx hb dL_law_32 w21 (by decide) (by decide) (by decide) (by decide +kernel) (by decide) ?_
        exact lw_c21 hC hi0 (by omega) hh hT9 hS9 hM9 hF9 hE9 hA9 hP hD hS hl
      by_cases w22 : z = 22
      · refine z_tabIn (off := 754) (tgt := 786) hx hb dL_law_32 w22 (by decide) (by decide) (by decide) (by decide +kernel) (by decide) ?_
        exact lw_c22 hC hi0 (by omega) hh hT9 hS9 hM9 hF9 hE9 hA9 hP hD hS hl
      by_cases w23 : z = 23
      · refine z_tabIn (off := 797) (tgt := 829) hx hb dL_law_32 w23 (by decide) (by decide) (by decide) (by decide +kernel) (by decide) ?_
        exact lw_c23 hC hi0 (by omega) hh hT9 hS9 hM9 hF9 hE9 hA9 hP hD hS hl
      by_cases w24 : z = 24
      · refine z_tabIn (off := 810) (tgt := 842) hx hb dL_law_32 w24 (by decide) (by decide) (by decide) (by decide +kernel) (by decide) ?_
        exact lw_c24 hC hi0 (by omega) hh hT9 hS9 hM9 hF9 hE9 hA9 hP hD hS hl
      refine z_tabOut (tgt := 865) hx hb dL_law_32 (by omega) (by omega) (by decide) ?_
      refine lv_iinc (v := nZ (i + 5)) (lv' := [(3, .int (nZ (i + 5))), (0, .ref b), (1, .ref x), (2, .ref mh)]) hx hb dL_law_865 hl (k := 3) rfl (nZ_add _ _) (by decide) rfl (fun ls hl => ?_)
      refine lv_goto (tgt := 18) hx hb dL_law_868 (by decide) ?_
      exact hh tx nb wd cs mp me ch fo ev ko mt rd fi sr ki ro oo mv mw mx mn wi len li kd st en so sm sp sb sc sd sl told _ size _ _ _ rule taken lost kept ms mps mta mtk mdg mnu mfa mrm mla mle mst mru mtn mlo mbl mch hT9 hS9 hM9 hF9 hE9 hA9 _ _ ls hP hD hS (lv_sub hl [1, 2, 3, 0] rfl)
theorem iv_start {me : Int → Int} (h : MeanOK cs0 mp0 me) : ivT zF zF 0 ∧ ivS 6 3 100 100 0 0 5 ∧ ivM cs0 mp0 me (fiF zF 0 28080) 6 3 0 zF zF ∧ ivF 6 0 0 zF zF ∧ ivE 6 3 0 6 3 0 zF zF zF zF ∧ ivA 0 zF zF zF zF :=
  ⟨⟨by decide, by decide, fun _ => ⟨by show (0 : Int) ≤ 0; decide, by show (0 : Int) ≤ 255; decide⟩, fun _ => ⟨by show (-1 : Int) ≤ 0; decide, by show (0 : Int) ≤ 5; decide⟩⟩, by unfold ivS; decide, ⟨mood0, h, MemoOK.zero (fun i a b => if_pos ⟨a, b⟩), ⟨Or.inl rfl, fun z => absurd z (by decide)⟩⟩,
   ⟨by decide, by decide, rfl, fun _ => ⟨by show (0 : Int) ≤ 0; decide, by show (0 : Int) ≤ 36; decide⟩, fun _ => ⟨by show (0 : Int) ≤ 0; decide, by show (0 : Int) ≤ 36; decide⟩, fun k a _ => by unfold foF; rw [if_neg (by omega)]; rfl⟩,
   ⟨by decide, fun i a b => by omega, rfl, rfl, rfl, fun _ => by show I32 0; decide, fun i a b => by omega⟩, ⟨by decide, by decide, fun i a b => by omega⟩⟩
set_option maxHeartbeats 4000000 in
set_option maxRecDepth 100000 in
theorem whole_start {p : Program} {e : Env} {s : State} {m : MethodId} {below : List Frame} {meth : Method} {c : Code} (l : Launch) (hflags : l.flags = flags0) {b L : Nat} {xs : Nat → Int32} (hL : L ≤ 2560) (C0 : lw_At p s m meth c b L xs) : W p l e room_1 s m #[Value.ref b] below meth c s.heap [] 0 0 (lw_Z below #[Value.ref b] s) (entryFrame m ([Value.ref b] : List Value).toArray 4) := by
  obtain ⟨hx, hb, hr, hml, hown, hts0, hX, hbl, hlocks, hgv⟩ := id C0
  obtain ⟨D, cI, cJ, tn, aK, aV, hE, hZ⟩ := lw_env hts0 hgv
  have hts : ∀ w ∈ wsL_law, w.before #[Value.ref b] s = true := fun w h => hts0 w (wsL_law_in w h)
  have hbA : ¬ (fun q : Nat => s.heap.size ≤ q) b := Nat.not_le.mpr hbl
  have hA2 : ∀ q : Nat, (fun q : Nat => s.heap.size ≤ q) q → s.heap.size ≤ q := fun _ h => h
  have hA : ∀ q : Nat, s.heap.size ≤ q → (fun q : Nat => s.heap.size ≤ q) q := fun _ h => h
  have hS : va_S (fun q : Nat => s.heap.size ≤ q) s.heap s.heap [] := va_S.rf
  have hP : va_P D vwCl [] s.heap := fun k q h => by simp at h
  have hD : va_D (fun q : Nat => s.heap.size ≤ q) [] := ⟨fun i j p q h => by simp at h, fun k q h => by simp at h⟩
  generalize (fun q : Nat => s.heap.size ≤ q) = A at hE hZ hbA hA2 hA hS hD
  have hC : LCx p s m c D cI cJ tn aK aV b L xs A := ⟨hx, hb, hml, hown, hts, hX, hbl, hbA, hA, hE, hZ, hL⟩
  have hK := hE.1
  have hN := hE.2.1
  have iX9 := inlX9
  have iX10 := inlX10
  have hl := lv_entry ([.ref b]) (n := 4) (Nat.le_of_ble_eq_true rfl)
  rw [lg_entry_eq]
  generalize (lg_sl ([.ref b]) ++ List.replicate (4 - (lg_sl ([.ref b])).length) Slot.unset).toArray = ls at hl ⊢
  have hl : lv_has ls 4 [(0, .ref b)] := hl
  refine va_new (ci := 9) (fs := [.null, .null, .null, .null, .null, .null, .null, .null, .null]) (C := RX9) (T := TX9) (N := 9) hx hb hts iX9 tyX9 tyX9_ok hown (hts (.classLink RL 7 RX9) (List.mem_of_getElem? (i := 0) rfl)) (hts (.instantiable RX9 9) (List.mem_of_getElem? (i := 1) rfl)) (hts (.initialized RX9) (List.mem_of_getElem? (i := 2) rfl)) hK hP hD hS hA rfl dfX9 (Nat.le_of_ble_eq_true rfl) (Nat.le_of_ble_eq_true rfl) dL_law_0 (fun q0 H hP hD hS => ?_)
  have hP : va_P D vwCl [(q0, .inr (9, [.null, .null, .null, .null, .null, .null, .null, .null, .null]))] H := hP
  have hD : va_D A [(q0, .inr (9, [.null, .null, .null, .null, .null, .null, .null, .null, .null]))] := hD
  refine lv_dup hx hb dL_law_3 rfl ?_
  have hFc := va_free (wc := [(q0, .inr (9, [.null, .null, .null, .null, .null, .null, .null, .null, .null]))]) hD hS hA [0] rfl
  have hPc := hP.sub (ws' := [(q0, .inr (9, [.null, .null, .null, .null, .null, .null, .null, .null, .null]))]) [0] rfl
  have hDc := hD.sub (ws' := [(q0, .inr (9, [.null, .null, .null, .null, .null, .null, .null, .null, .null]))]) [0] (by decide) rfl
  refine va_callv (va_runI (As := []) (rest := [.ref q0]) ⟨hx, hb, hml, hown, hts⟩ (c_X9_init l D cI cJ tn H.size q0  ) (cwI 0 hts gL_law_X9_init rfl rfl rfl (hts (.initialized RX9) (List.mem_of_getElem? (i := 2) rfl)) (hts (.methodLink RL 9 yX9_init) (List.mem_of_getElem? (i := 7) rfl)) (hts (.instanceMethod yX9_init) (List.mem_of_getElem? (i := 8) rfl)) rfl (by decide +kernel) ⟨Nat.le_of_ble_eq_true rfl, Nat.le_of_ble_eq_true rfl⟩) ⟨WrP.blind, fun U hU hW => ⟨rfl, WrP.call hE hS hPc hDc hFc hU hW⟩⟩ rfl rfl hl.1 rfl (lv_room (Nat.le_of_ble_eq_true rfl)) dL_law_4 ⟨Nat.le_of_ble_eq_true rfl, Nat.le_of_ble_eq_true rfl⟩) hS (fun q _ h => hFc q h) hFc (fun u9 t9 H1 locs ht9 hvm hv4 hB9 hz9 hk9 hS => ?_)
  obtain ⟨t_4, tq_4, rdr_4, wq_4, nq_4, g_4, q1_4, p1_4, p2_4, h_4, q2_4, q3_4, f_4, fq_4, s2_4, eq_4, w_4, kq_4, mq_4, mtq_4, me2_4⟩ := u9
  obtain ⟨hP8, hD8⟩ := hB9
  rw [ht9] at hP8
  have hw4 : MeanOK cs0 mp0 me2_4 := hv4
  obtain ⟨hP, hD⟩ := va_join (wr := []) (w1 := [(q0, .inr (9, [.ref t_4, .ref rdr_4, .ref g_4, .ref q1_4, .ref h_4, .ref f_4, .ref s2_4, .ref w_4, .ref mq_4])), (t_4, .inr (7, [.ref tq_4, .int (nZ 0)])), (tq_4, .inl (cI, 200, .inl (aZ zF))), (rdr_4, .inr (4, [.ref t_4, .ref wq_4, .ref nq_4, .int (nZ 0), .int (nZ 0), .int (nZ 0), .int (nZ 0)])), (nq_4, .inl (cI, 104, .inl (aZ zF))), (wq_4, .inl (cI, 8, .inl (aZ zF))), (g_4, .inr (6, [.int (nZ 6), .int (nZ 3), .int (nZ 100), .int (nZ 100), .int (nZ 0), .int (nZ 0), .int (nZ 5)])), (q1_4, .inr (3, [.ref p1_4, .ref p2_4])), (p1_4, .inl (cI, 4, .inl (aZ cs0))), (p2_4, .inl (cI, 48, .inl (aZ mp0))), (h_4, .inr (0, [.ref q1_4, .ref q2_4, .ref q3_4])), (q2_4, .inl (cJ, 143, .inr (.inl (bZ me2_4)))), (q3_4, .inl (cJ, 28080, .inr (.inl (bZ (fiF zF 0 28080))))), (f_4, .inr (1, [.ref fq_4, .int (nZ 0), .int (nZ 0)])), (fq_4, .inl (cI, 12, .inl (aZ zF))), (s2_4, .inr (5, [.ref eq_4, .int (nZ 0), .int (nZ 6), .int (nZ 3), .int (nZ 0)])), (eq_4, .inl (cI, 144, .inl (aZ zF))), (w_4, .inr (8, [.ref g_4, .ref h_4, .ref f_4, .ref kq_4, .int (nZ 0), .int (nZ 0), .int (nZ 0), .int (nZ 0)])), (kq_4, .inl (cI, 13, .inl (aZ zF))), (mq_4, .inr (2, [.ref mtq_4, .int (nZ 0)])), (mtq_4, .inl (cI, 72, .inl (aZ zF)))]) hP hD [0] [] rfl rfl (by decide) (by decide) hk9 hFc hP8 hD8
  generalize H1 = H at hP hS ⊢
  have hP : va_P D vwCl [(q0, .inr (9, [.ref t_4, .ref rdr_4, .ref g_4, .ref q1_4, .ref h_4, .ref f_4, .ref s2_4, .ref w_4, .ref mq_4])), (t_4, .inr (7, [.ref tq_4, .int (nZ 0)])), (tq_4, .inl (cI, 200, .inl (aZ zF))), (rdr_4, .inr (4, [.ref t_4, .ref wq_4, .ref nq_4, .int (nZ 0), .int (nZ 0), .int (nZ 0), .int (nZ 0)])), (nq_4, .inl (cI, 104, .inl (aZ zF))), (wq_4, .inl (cI, 8, .inl (aZ zF))), (g_4, .inr (6, [.int (nZ 6), .int (nZ 3), .int (nZ 100), .int (nZ 100), .int (nZ 0), .int (nZ 0), .int (nZ 5)])), (q1_4, .inr (3, [.ref p1_4, .ref p2_4])), (p1_4, .inl (cI, 4, .inl (aZ cs0))), (p2_4, .inl (cI, 48, .inl (aZ mp0))), (h_4, .inr (0, [.ref q1_4, .ref q2_4, .ref q3_4])), (q2_4, .inl (cJ, 143, .inr (.inl (bZ me2_4)))), (q3_4, .inl (cJ, 28080, .inr (.inl (bZ (fiF zF 0 28080))))), (f_4, .inr (1, [.ref fq_4, .int (nZ 0), .int (nZ 0)])), (fq_4, .inl (cI, 12, .inl (aZ zF))), (s2_4, .inr (5, [.ref eq_4, .int (nZ 0), .int (nZ 6), .int (nZ 3), .int (nZ 0)])), (eq_4, .inl (cI, 144, .inl (aZ zF))), (w_4, .inr (8, [.ref g_4, .ref h_4, .ref f_4, .ref kq_4, .int (nZ 0), .int (nZ 0), .int (nZ 0), .int (nZ 0)])), (kq_4, .inl (cI, 13, .inl (aZ zF))), (mq_4, .inr (2, [.ref mtq_4, .int (nZ 0)])), (mtq_4, .inl (cI, 72, .inl (aZ zF)))] H := hP
  have hD : va_D A [(q0, .inr (9, [.ref t_4, .ref rdr_4, .ref g_4, .ref q1_4, .ref h_4, .ref f_4, .ref s2_4, .ref w_4, .ref mq_4])), (t_4, .inr (7, [.ref tq_4, .int (nZ 0)])), (tq_4, .inl (cI, 200, .inl (aZ zF))), (rdr_4, .inr (4, [.ref t_4, .ref wq_4, .ref nq_4, .int (nZ 0), .int (nZ 0), .int (nZ 0), .int (nZ 0)])), (nq_4, .inl (cI, 104, .inl (aZ zF))), (wq_4, .inl (cI, 8, .inl (aZ zF))), (g_4, .inr (6, [.int (nZ 6), .int (nZ 3), .int (nZ 100), .int (nZ 100), .int (nZ 0), .int (nZ 0), .int (nZ 5)])), (q1_4, .inr (3, [.ref p1_4, .ref p2_4])), (p1_4, .inl (cI, 4, .inl (aZ cs0))), (p2_4, .inl (cI, 48, .inl (aZ mp0))), (h_4, .inr (0, [.ref q1_4, .ref q2_4, .ref q3_4])), (q2_4, .inl (cJ, 143, .inr (.inl (bZ me2_4)))), (q3_4, .inl (cJ, 28080, .inr (.inl (bZ (fiF zF 0 28080))))), (f_4, .inr (1, [.ref fq_4, .int (nZ 0), .int (nZ 0)])), (fq_4, .inl (cI, 12, .inl (aZ zF))), (s2_4, .inr (5, [.ref eq_4, .int (nZ 0), .int (nZ 6), .int (nZ 3), .int (nZ 0)])), (eq_4, .inl (cI, 144, .inl (aZ zF))), (w_4, .inr (8, [.ref g_4, .ref h_4, .ref f_4, .ref kq_4, .int (nZ 0), .int (nZ 0), .int (nZ 0), .int (nZ 0)])), (kq_4, .inl (cI, 13, .inl (aZ zF))), (mq_4, .inr (2, [.ref mtq_4, .int (nZ 0)])), (mtq_4, .inl (cI, 72, .inl (aZ zF)))] := hD
  refine lv_astore_n (lv' := [(1, .ref q0), (0, .ref b)]) hx hb dL_law_7 rfl hl (by decide) rfl (fun ls hl => ?_)
  refine va_new (ci := 10) (fs := [.int (nZ 0), .int (nZ 0), .null, .null, .int (nZ 0), .int (nZ 0), .int (nZ 0), .int (nZ 0), .int (nZ 0), .int (nZ 0), .null, .int (nZ 0), .int (nZ 0), .long (lZ 0), .int (nZ 0), .int (nZ 0), .int (nZ 0), .int (nZ 0), .null, .int (nZ 0), .null, .null, .int (nZ 0), .null, .null, .null, .int (nZ 0), .null, .null, .null, .int (nZ 0), .null, .null, .int (nZ 0), .int (nZ 0), .int (nZ 0), .int (nZ 0), .int (nZ 0), .int (nZ 0), .int (nZ 0)]) (C := RX10) (T := TX10) (N := 40) hx hb hts iX10 tyX10 tyX10_ok hown (hts (.classLink RL 10 RX10) (List.mem_of_getElem? (i := 3) rfl)) (hts (.instantiable RX10 40) (List.mem_of_getElem? (i := 4) rfl)) (hts (.initialized RX10) (List.mem_of_getElem? (i := 5) rfl)) hK hP hD hS hA rfl dfX10 (Nat.le_of_ble_eq_true rfl) (Nat.le_of_ble_eq_true rfl) dL_law_8 (fun q8 H hP hD hS => ?_)
  have hP : va_P D vwCl [(q0, .inr (9, [.ref t_4, .ref rdr_4, .ref g_4, .ref q1_4, .ref h_4, .ref f_4, .ref s2_4, .ref w_4, .ref mq_4])), (t_4, .inr (7, [.ref tq_4, .int (nZ 0)])), (tq_4, .inl (cI, 200, .inl (aZ zF))), (rdr_4, .inr (4, [.ref t_4, .ref wq_4, .ref nq_4, .int (nZ 0), .int (nZ 0), .int (nZ 0), .int (nZ 0)])), (nq_4, .inl (cI, 104, .inl (aZ zF))), (wq_4, .inl (cI, 8, .inl (aZ zF))), (g_4, .inr (6, [.int (nZ 6), .int (nZ 3), .int (nZ 100), .int (nZ 100), .int (nZ 0), .int (nZ 0), .int (nZ 5)])), (q1_4, .inr (3, [.ref p1_4, .ref p2_4])), (p1_4, .inl (cI, 4, .inl (aZ cs0))), (p2_4, .inl (cI, 48, .inl (aZ mp0))), (h_4, .inr (0, [.ref q1_4, .ref q2_4, .ref q3_4])), (q2_4, .inl (cJ, 143, .inr (.inl (bZ me2_4)))), (q3_4, .inl (cJ, 28080, .inr (.inl (bZ (fiF zF 0 28080))))), (f_4, .inr (1, [.ref fq_4, .int (nZ 0), .int (nZ 0)])), (fq_4, .inl (cI, 12, .inl (aZ zF))), (s2_4, .inr (5, [.ref eq_4, .int (nZ 0), .int (nZ 6), .int (nZ 3), .int (nZ 0)])), (eq_4, .inl (cI, 144, .inl (aZ zF))), (w_4, .inr (8, [.ref g_4, .ref h_4, .ref f_4, .ref kq_4, .int (nZ 0), .int (nZ 0), .int (nZ 0), .int (nZ 0)])), (kq_4, .inl (cI, 13, .inl (aZ zF))), (mq_4, .inr (2, [.ref mtq_4, .int (nZ 0)])), (mtq_4, .inl (cI, 72, .inl (aZ zF))), (q8, .inr (10, [.int (nZ 0), .int (nZ 0), .null, .null, .int (nZ 0), .int (nZ 0), .int (nZ 0), .int (nZ 0), .int (nZ 0), .int (nZ 0), .null, .int (nZ 0), .int (nZ 0), .long (lZ 0), .int (nZ 0), .int (nZ 0), .int (nZ 0), .int (nZ 0), .null, .int (nZ 0), .null, .null, .int (nZ 0), .null, .null, .null, .int (nZ 0), .null, .null, .null, .int (nZ 0), .null, .null, .int (nZ 0), .int (nZ 0), .int (nZ 0), .int (nZ 0), .int (nZ 0), .int (nZ 0), .int (nZ 0)]))] H := hP
  have hD : va_D A [(q0, .inr (9, [.ref t_4, .ref rdr_4, .ref g_4, .ref q1_4, .ref h_4, .ref f_4, .ref s2_4, .ref w_4, .ref mq_4])), (t_4, .inr (7, [.ref tq_4, .int (nZ 0)])), (tq_4, .inl (cI, 200, .inl (aZ zF))), (rdr_4, .inr (4, [.ref t_4, .ref wq_4, .ref nq_4, .int (nZ 0), .int (nZ 0), .int (nZ 0), .int (nZ 0)])), (nq_4, .inl (cI, 104, .inl (aZ zF))), (wq_4, .inl (cI, 8, .inl (aZ zF))), (g_4, .inr (6, [.int (nZ 6), .int (nZ 3), .int (nZ 100), .int (nZ 100), .int (nZ 0), .int (nZ 0), .int (nZ 5)])), (q1_4, .inr (3, [.ref p1_4, .ref p2_4])), (p1_4, .inl (cI, 4, .inl (aZ cs0))), (p2_4, .inl (cI, 48, .inl (aZ mp0))), (h_4, .inr (0, [.ref q1_4, .ref q2_4, .ref q3_4])), (q2_4, .inl (cJ, 143, .inr (.inl (bZ me2_4)))), (q3_4, .inl (cJ, 28080, .inr (.inl (bZ (fiF zF 0 28080))))), (f_4, .inr (1, [.ref fq_4, .int (nZ 0), .int (nZ 0)])), (fq_4, .inl (cI, 12, .inl (aZ zF))), (s2_4, .inr (5, [.ref eq_4, .int (nZ 0), .int (nZ 6), .int (nZ 3), .int (nZ 0)])), (eq_4, .inl (cI, 144, .inl (aZ zF))), (w_4, .inr (8, [.ref g_4, .ref h_4, .ref f_4, .ref kq_4, .int (nZ 0), .int (nZ 0), .int (nZ 0), .int (nZ 0)])), (kq_4, .inl (cI, 13, .inl (aZ zF))), (mq_4, .inr (2, [.ref mtq_4, .int (nZ 0)])), (mtq_4, .inl (cI, 72, .inl (aZ zF))), (q8, .inr (10, [.int (nZ 0), .int (nZ 0), .null, .null, .int (nZ 0), .int (nZ 0), .int (nZ 0), .int (nZ 0), .int (nZ 0), .int (nZ 0), .null, .int (nZ 0), .int (nZ 0), .long (lZ 0), .int (nZ 0), .int (nZ 0), .int (nZ 0), .int (nZ 0), .null, .int (nZ 0), .null, .null, .int (nZ 0), .null, .null, .null, .int (nZ 0), .null, .null, .null, .int (nZ 0), .null, .null, .int (nZ 0), .int (nZ 0), .int (nZ 0), .int (nZ 0), .int (nZ 0), .int (nZ 0), .int (nZ 0)]))] := hD
  refine lv_dup hx hb dL_law_11 rfl ?_
  have hFc := va_free (wc := [(q8, .inr (10, [.int (nZ 0), .int (nZ 0), .null, .null, .int (nZ 0), .int (nZ 0), .int (nZ 0), .int (nZ 0), .int (nZ 0), .int (nZ 0), .null, .int (nZ 0), .int (nZ 0), .long (lZ 0), .int (nZ 0), .int (nZ 0), .int (nZ 0), .int (nZ 0), .null, .int (nZ 0), .null, .null, .int (nZ 0), .null, .null, .null, .int (nZ 0), .null, .null, .null, .int (nZ 0), .null, .null, .int (nZ 0), .int (nZ 0), .int (nZ 0), .int (nZ 0), .int (nZ 0), .int (nZ 0), .int (nZ 0)]))]) hD hS hA [21] rfl
  have hPc := hP.sub (ws' := [(q8, .inr (10, [.int (nZ 0), .int (nZ 0), .null, .null, .int (nZ 0), .int (nZ 0), .int (nZ 0), .int (nZ 0), .int (nZ 0), .int (nZ 0), .null, .int (nZ 0), .int (nZ 0), .long (lZ 0), .int (nZ 0), .int (nZ 0), .int (nZ 0), .int (nZ 0), .null, .int (nZ 0), .null, .null, .int (nZ 0), .null, .null, .null, .int (nZ 0), .null, .null, .null, .int (nZ 0), .null, .null, .int (nZ 0), .int (nZ 0), .int (nZ 0), .int (nZ 0), .int (nZ 0), .int (nZ 0), .int (nZ 0)]))]) [21] rfl
  have hDc := hD.sub (ws' := [(q8, .inr (10, [.int (nZ 0), .int (nZ 0), .null, .null, .int (nZ 0), .int (nZ 0), .int (nZ 0), .int (nZ 0), .int (nZ 0), .int (nZ 0), .null, .int (nZ 0), .int (nZ 0), .long (lZ 0), .int (nZ 0), .int (nZ 0), .int (nZ 0), .int (nZ 0), .null, .int (nZ 0), .null, .null, .int (nZ 0), .null, .null, .null, .int (nZ 0), .null, .null, .null, .int (nZ 0), .null, .null, .int (nZ 0), .int (nZ 0), .int (nZ 0), .int (nZ 0), .int (nZ 0), .int (nZ 0), .int (nZ 0)]))]) [21] (by decide) rfl
  refine va_callv (va_runI (As := []) (rest := [.ref q8]) ⟨hx, hb, hml, hown, hts⟩ (c_X10_init l D cI cJ tn H.size q8  ) (cwI 0 hts gL_law_X10_init rfl rfl rfl (hts (.initialized RX10) (List.mem_of_getElem? (i := 5) rfl)) (hts (.methodLink RL 12 yX10_init) (List.mem_of_getElem? (i := 142) rfl)) (hts (.instanceMethod yX10_init) (List.mem_of_getElem? (i := 143) rfl)) rfl (by decide +kernel) ⟨Nat.le_of_ble_eq_true rfl, Nat.le_of_ble_eq_true rfl⟩) ⟨WrP.blind, fun U hU hW => ⟨rfl, WrP.call hE hS hPc hDc hFc hU hW⟩⟩ rfl rfl hl.1 rfl (lv_room (Nat.le_of_ble_eq_true rfl)) dL_law_12 ⟨Nat.le_of_ble_eq_true rfl, Nat.le_of_ble_eq_true rfl⟩) hS (fun q _ h => hFc q h) hFc (fun u9 t9 H1 locs ht9 hvm hv12 hB9 hz9 hk9 hS => ?_)
  obtain ⟨a22_12, a32_12, a102_12, a182_12, a202_12, a212_12, a232_12, a242_12, a252_12, a272_12, a282_12, a292_12, a312_12, a322_12⟩ := u9
  obtain ⟨hP8, hD8⟩ := hB9
  rw [ht9] at hP8
  have hw12 : True := hv12
  obtain ⟨hP, hD⟩ := va_join (wr := [(q0, .inr (9, [.ref t_4, .ref rdr_4, .ref g_4, .ref q1_4, .ref h_4, .ref f_4, .ref s2_4, .ref w_4, .ref mq_4])), (t_4, .inr (7, [.ref tq_4, .int (nZ 0)])), (tq_4, .inl (cI, 200, .inl (aZ zF))), (rdr_4, .inr (4, [.ref t_4, .ref wq_4, .ref nq_4, .int (nZ 0), .int (nZ 0), .int (nZ 0), .int (nZ 0)])), (nq_4, .inl (cI, 104, .inl (aZ zF))), (wq_4, .inl (cI, 8, .inl (aZ zF))), (g_4, .inr (6, [.int (nZ 6), .int (nZ 3), .int (nZ 100), .int (nZ 100), .int (nZ 0), .int (nZ 0), .int (nZ 5)])), (q1_4, .inr (3, [.ref p1_4, .ref p2_4])), (p1_4, .inl (cI, 4, .inl (aZ cs0))), (p2_4, .inl (cI, 48, .inl (aZ mp0))), (h_4, .inr (0, [.ref q1_4, .ref q2_4, .ref q3_4])), (q2_4, .inl (cJ, 143, .inr (.inl (bZ me2_4)))), (q3_4, .inl (cJ, 28080, .inr (.inl (bZ (fiF zF 0 28080))))), (f_4, .inr (1, [.ref fq_4, .int (nZ 0), .int (nZ 0)])), (fq_4, .inl (cI, 12, .inl (aZ zF))), (s2_4, .inr (5, [.ref eq_4, .int (nZ 0), .int (nZ 6), .int (nZ 3), .int (nZ 0)])), (eq_4, .inl (cI, 144, .inl (aZ zF))), (w_4, .inr (8, [.ref g_4, .ref h_4, .ref f_4, .ref kq_4, .int (nZ 0), .int (nZ 0), .int (nZ 0), .int (nZ 0)])), (kq_4, .inl (cI, 13, .inl (aZ zF))), (mq_4, .inr (2, [.ref mtq_4, .int (nZ 0)])), (mtq_4, .inl (cI, 72, .inl (aZ zF)))]) (w1 := [(q8, .inr (10, [.int (nZ 6), .int (nZ 3), .ref a22_12, .ref a32_12, .int (nZ 100), .int (nZ 100), .int (nZ 0), .int (nZ 0), .int (nZ 5), .int (nZ 0), .ref a102_12, .int (nZ 0), .int (nZ 0), .long (lZ 0), .int (nZ 0), .int (nZ 0), .int (nZ 0), .int (nZ 0), .ref a182_12, .int (nZ 0), .ref a202_12, .ref a212_12, .int (nZ 0), .ref a232_12, .ref a242_12, .ref a252_12, .int (nZ 0), .ref a272_12, .ref a282_12, .ref a292_12, .int (nZ 0), .ref a312_12, .ref a322_12, .int (nZ 0), .int (nZ 0), .int (nZ 0), .int (nZ 0), .int (nZ 0), .int (nZ 0), .int (nZ 0)])), (a22_12, .inl (cI, 4, .inl (aZ cs0))), (a32_12, .inl (cI, 48, .inl (aZ mp0))), (a102_12, .inl (cI, 200, .inl (aZ zF))), (a182_12, .inl (cI, 120, .inl (aZ zF))), (a202_12, .inl (cI, 12, .inl (aZ zF))), (a212_12, .inl (cI, 12, .inl (aZ zF))), (a232_12, .inl (cI, 24, .inl (aZ zF))), (a242_12, .inl (cI, 24, .inl (aZ zF))), (a252_12, .inl (cI, 24, .inl (aZ zF))), (a272_12, .inl (cI, 24, .inl (aZ zF))), (a282_12, .inl (cI, 24, .inl (aZ zF))), (a292_12, .inl (cI, 24, .inl (aZ zF))), (a312_12, .inl (cJ, 143, .inr (.inl (bZ zF)))), (a322_12, .inl (cJ, 143000, .inr (.inl (bZ zF))))]) hP hD [21] [0, 1, 2, 3, 4, 5, 6, 7, 8, 9, 10, 11, 12, 13, 14, 15, 16, 17, 18, 19, 20] rfl rfl (by decide) (by decide) hk9 hFc hP8 hD8
  generalize H1 = H at hP hS ⊢
  have hP : va_P D vwCl [(q0, .inr (9, [.ref t_4, .ref rdr_4, .ref g_4, .ref q1_4, .ref h_4, .ref f_4, .ref s2_4, .ref w_4, .ref mq_4])), (t_4, .inr (7, [.ref tq_4, .int (nZ 0)])), (tq_4, .inl (cI, 200, .inl (aZ zF))), (rdr_4, .inr (4, [.ref t_4, .ref wq_4, .ref nq_4, .int (nZ 0), .int (nZ 0), .int (nZ 0), .int (nZ 0)])), (nq_4, .inl (cI, 104, .inl (aZ zF))), (wq_4, .inl (cI, 8, .inl (aZ zF))), (g_4, .inr (6, [.int (nZ 6), .int (nZ 3), .int (nZ 100), .int (nZ 100), .int (nZ 0), .int (nZ 0), .int (nZ 5)])), (q1_4, .inr (3, [.ref p1_4, .ref p2_4])), (p1_4, .inl (cI, 4, .inl (aZ cs0))), (p2_4, .inl (cI, 48, .inl (aZ mp0))), (h_4, .inr (0, [.ref q1_4, .ref q2_4, .ref q3_4])), (q2_4, .inl (cJ, 143, .inr (.inl (bZ me2_4)))), (q3_4, .inl (cJ, 28080, .inr (.inl (bZ (fiF zF 0 28080))))), (f_4, .inr (1, [.ref fq_4, .int (nZ 0), .int (nZ 0)])), (fq_4, .inl (cI, 12, .inl (aZ zF))), (s2_4, .inr (5, [.ref eq_4, .int (nZ 0), .int (nZ 6), .int (nZ 3), .int (nZ 0)])), (eq_4, .inl (cI, 144, .inl (aZ zF))), (w_4, .inr (8, [.ref g_4, .ref h_4, .ref f_4, .ref kq_4, .int (nZ 0), .int (nZ 0), .int (nZ 0), .int (nZ 0)])), (kq_4, .inl (cI, 13, .inl (aZ zF))), (mq_4, .inr (2, [.ref mtq_4, .int (nZ 0)])), (mtq_4, .inl (cI, 72, .inl (aZ zF))), (q8, .inr (10, [.int (nZ 6), .int (nZ 3), .ref a22_12, .ref a32_12, .int (nZ 100), .int (nZ 100), .int (nZ 0), .int (nZ 0), .int (nZ 5), .int (nZ 0), .ref a102_12, .int (nZ 0), .int (nZ 0), .long (lZ 0), .int (nZ 0), .int (nZ 0), .int (nZ 0), .int (nZ 0), .ref a182_12, .int (nZ 0), .ref a202_12, .ref a212_12, .int (nZ 0), .ref a232_12, .ref a242_12, .ref a252_12, .int (nZ 0), .ref a272_12, .ref a282_12, .ref a292_12, .int (nZ 0), .ref a312_12, .ref a322_12, .int (nZ 0), .int (nZ 0), .int (nZ 0), .int (nZ 0), .int (nZ 0), .int (nZ 0), .int (nZ 0)])), (a22_12, .inl (cI, 4, .inl (aZ cs0))), (a32_12, .inl (cI, 48, .inl (aZ mp0))), (a102_12, .inl (cI, 200, .inl (aZ zF))), (a182_12, .inl (cI, 120, .inl (aZ zF))), (a202_12, .inl (cI, 12, .inl (aZ zF))), (a212_12, .inl (cI, 12, .inl (aZ zF))), (a232_12, .inl (cI, 24, .inl (aZ zF))), (a242_12, .inl (cI, 24, .inl (aZ zF))), (a252_12, .inl (cI, 24, .inl (aZ zF))), (a272_12, .inl (cI, 24, .inl (aZ zF))), (a282_12, .inl (cI, 24, .inl (aZ zF))), (a292_12, .inl (cI, 24, .inl (aZ zF))), (a312_12, .inl (cJ, 143, .inr (.inl (bZ zF)))), (a322_12, .inl (cJ, 143000, .inr (.inl (bZ zF))))] H := hP
  have hD : va_D A [(q0, .inr (9, [.ref t_4, .ref rdr_4, .ref g_4, .ref q1_4, .ref h_4, .ref f_4, .ref s2_4, .ref w_4, .ref mq_4])), (t_4, .inr (7, [.ref tq_4, .int (nZ 0)])), (tq_4, .inl (cI, 200, .inl (aZ zF))), (rdr_4, .inr (4, [.ref t_4, .ref wq_4, .ref nq_4, .int (nZ 0), .int (nZ 0), .int (nZ 0), .int (nZ 0)])), (nq_4, .inl (cI, 104, .inl (aZ zF))), (wq_4, .inl (cI, 8, .inl (aZ zF))), (g_4, .inr (6, [.int (nZ 6), .int (nZ 3), .int (nZ 100), .int (nZ 100), .int (nZ 0), .int (nZ 0), .int (nZ 5)])), (q1_4, .inr (3, [.ref p1_4, .ref p2_4])), (p1_4, .inl (cI, 4, .inl (aZ cs0))), (p2_4, .inl (cI, 48, .inl (aZ mp0))), (h_4, .inr (0, [.ref q1_4, .ref q2_4, .ref q3_4])), (q2_4, .inl (cJ, 143, .inr (.inl (bZ me2_4)))), (q3_4, .inl (cJ, 28080, .inr (.inl (bZ (fiF zF 0 28080))))), (f_4, .inr (1, [.ref fq_4, .int (nZ 0), .int (nZ 0)])), (fq_4, .inl (cI, 12, .inl (aZ zF))), (s2_4, .inr (5, [.ref eq_4, .int (nZ 0), .int (nZ 6), .int (nZ 3), .int (nZ 0)])), (eq_4, .inl (cI, 144, .inl (aZ zF))), (w_4, .inr (8, [.ref g_4, .ref h_4, .ref f_4, .ref kq_4, .int (nZ 0), .int (nZ 0), .int (nZ 0), .int (nZ 0)])), (kq_4, .inl (cI, 13, .inl (aZ zF))), (mq_4, .inr (2, [.ref mtq_4, .int (nZ 0)])), (mtq_4, .inl (cI, 72, .inl (aZ zF))), (q8, .inr (10, [.int (nZ 6), .int (nZ 3), .ref a22_12, .ref a32_12, .int (nZ 100), .int (nZ 100), .int (nZ 0), .int (nZ 0), .int (nZ 5), .int (nZ 0), .ref a102_12, .int (nZ 0), .int (nZ 0), .long (lZ 0), .int (nZ 0), .int (nZ 0), .int (nZ 0), .int (nZ 0), .ref a182_12, .int (nZ 0), .ref a202_12, .ref a212_12, .int (nZ 0), .ref a232_12, .ref a242_12, .ref a252_12, .int (nZ 0), .ref a272_12, .ref a282_12, .ref a292_12, .int (nZ 0), .ref a312_12, .ref a322_12, .int (nZ 0), .int (nZ 0), .int (nZ 0), .int (nZ 0), .int (nZ 0), .int (nZ 0), .int (nZ 0)])), (a22_12, .inl (cI, 4, .inl (aZ cs0))), (a32_12, .inl (cI, 48, .inl (aZ mp0))), (a102_12, .inl (cI, 200, .inl (aZ zF))), (a182_12, .inl (cI, 120, .inl (aZ zF))), (a202_12, .inl (cI, 12, .inl (aZ zF))), (a212_12, .inl (cI, 12, .inl (aZ zF))), (a232_12, .inl (cI, 24, .inl (aZ zF))), (a242_12, .inl (cI, 24, .inl (aZ zF))), (a252_12, .inl (cI, 24, .inl (aZ zF))), (a272_12, .inl (cI, 24, .inl (aZ zF))), (a282_12, .inl (cI, 24, .inl (aZ zF))), (a292_12, .inl (cI, 24, .inl (aZ zF))), (a312_12, .inl (cJ, 143, .inr (.inl (bZ zF)))), (a322_12, .inl (cJ, 143000, .inr (.inl (bZ zF))))] := hD
  refine lv_astore_n (lv' := [(2, .ref q8), (1, .ref q0), (0, .ref b)]) hx hb dL_law_15 rfl hl (by decide) rfl (fun ls hl => ?_)
  refine lv_iconst (v := nZ 0) hx hb dL_law_16 rfl ?_
  refine lv_istore_n (lv' := [(3, .int (nZ 0)), (2, .ref q8), (1, .ref q0), (0, .ref b)]) hx hb dL_law_17 rfl hl (by decide) rfl (fun ls hl => ?_)
  obtain ⟨i1, i2, i3, i4, i5, i6⟩ := iv_start hw4
  refine W.widen (k := 36) (n := 172599) (by omega) (by omega) ?_
  exact lw_loop (tn := tn) (aK := aK) (aV := aV) (xs := xs) (x := q0) (t := t_4) (tq := tq_4) (rdr := rdr_4) (wq := wq_4) (nq := nq_4) (g := g_4) (q1 := q1_4) (p1 := p1_4) (p2 := p2_4) (h := h_4) (q2 := q2_4) (q3 := q3_4) (f := f_4) (fq := fq_4) (s2 := s2_4) (eq := eq_4) (w := w_4) (kq := kq_4) (mq := mq_4) (mtq := mtq_4) (mh := q8) (a2 := a22_12) (a3 := a32_12) (a10 := a102_12) (a18 := a182_12) (a20 := a202_12) (a21 := a212_12) (a23 := a232_12) (a24 := a242_12) (a25 := a252_12) (a27 := a272_12) (a28 := a282_12) (a29 := a292_12) (a31 := a312_12) (a32 := a322_12) hC hA2 hr hlocks _ 0 (by decide) (by omega) (Nat.lt_succ_self _) zF zF zF cs0 mp0 me2_4 (fiF zF 0 28080) zF zF zF zF zF zF zF zF zF zF zF zF zF zF zF 0 0 0 0 0 6 3 100 100 0 0 5 0 0 0 6 3 0 0 0 0 0 0 0 0 0 0 0 0 0 0 0 0 0 0 0 0 0 i1 i2 i3 i4 i5 i6 _ _ ls (hP.sub [0, 1, 2, 3, 4, 5, 6, 7, 8, 9, 10, 11, 12, 13, 14, 15, 16, 17, 18, 19, 20, 21, 22, 23, 24, 25, 26, 27, 28, 29, 30, 31, 32, 33, 34, 35] rfl) (hD.sub [0, 1, 2, 3, 4, 5, 6, 7, 8, 9, 10, 11, 12, 13, 14, 15, 16, 17, 18, 19, 20, 21, 22, 23, 24, 25, 26, 27, 28, 29, 30, 31, 32, 33, 34, 35] (by decide) rfl) hS (lv_sub hl [3, 2, 1, 0] rfl)

