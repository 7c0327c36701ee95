theorem target_tie {cs mp fo fi : Int → Int} {so sm sp sb sl told tot size so2 sm2 rn a : Int} {ev ki ro oo : Int → Int} (ho : 1 ≤ so) (ho2 : so ≤ 12) (hF : ivF so told tot fo fi) (hE : ivE so sm size so2 sm2 rn ev ki ro oo) : (if 0 ≤ a ∧ a ≤ 5 then TG fo so sl tot a (utN ev size.toNat) (ulN cs mp so sm sp sb tot a ev size.toNat) (ukN cs mp tot a ev size.toNat) else -2) = (if 0 ≤ a ∧ a ≤ 5 then TG (foF fi told) so sl (tot) a (tnN ki ro size.toNat) (if a = 3 then blN cs mp so sm sp sb (tot) ki ro oo size.toNat else loN cs mp so sm ki ro oo size.toNat) (chN cs mp so sm (tot) ki ro oo size.toNat) else -2) := by
  by_cases q : 0 ≤ a ∧ a ≤ 5
  · rw [if_pos q, if_pos q]; exact tg_tie (cs := cs) (mp := mp) (sp := sp) (sb := sb) (sl := sl) ho ho2 hF hE q.1 q.2 (n := size.toNat) (by have := hE.1; omega)
  · rw [if_neg q, if_neg q]
theorem odds_tie {cs mp fo fi : Int → Int} {so sm sp sb sl told tot size so2 sm2 rn a : Int} {ev ki ro oo : Int → Int} (ho : 1 ≤ so) (ho2 : so ≤ 12) (hF : ivF so told tot fo fi) (hE : ivE so sm size so2 sm2 rn ev ki ro oo) : (if 0 ≤ a ∧ a ≤ 5 then inM (WN cs mp (leN so ki ro size.toNat).toNat (stN sm ki oo size.toNat) (TG fo so sl tot a (utN ev size.toNat) (ulN cs mp so sm sp sb tot a ev size.toNat) (ukN cs mp tot a ev size.toNat) - (ruN ki ro size.toNat))) (leN so ki ro size.toNat) else -2) = (if 0 ≤ a ∧ a ≤ 5 then inM (WN cs mp (leN so ki ro size.toNat).toNat (stN sm ki oo size.toNat) (TG (foF fi told) so sl (tot) a (tnN ki ro size.toNat) (if a = 3 then blN cs mp so sm sp sb (tot) ki ro oo size.toNat else loN cs mp so sm ki ro oo size.toNat) (chN cs mp so sm (tot) ki ro oo size.toNat) - ruN ki ro size.toNat)) (leN so ki ro size.toNat) else -2) := by
  by_cases q : 0 ≤ a ∧ a ≤ 5
  · rw [if_pos q, if_pos q, tg_tie (cs := cs) (mp := mp) (sp := sp) (sb := sb) (sl := sl) ho ho2 hF hE q.1 q.2 (n := size.toNat) (by have := hE.1; omega)]
  · rw [if_neg q, if_neg q]
theorem won_tie {cs mp fo fi : Int → Int} {so sm sp sb sl told tot size so2 sm2 rn a : Int} {ev ki ro oo : Int → Int} (ho : 1 ≤ so) (ho2 : so ≤ 12) (hF : ivF so told tot fo fi) (hE : ivE so sm size so2 sm2 rn ev ki ro oo) : (if 0 ≤ a ∧ a ≤ 5 then (if TG fo so sl tot a (utN ev size.toNat) (ulN cs mp so sm sp sb tot a ev size.toNat) (ukN cs mp tot a ev size.toNat) ≤ (ruN ki ro size.toNat) then 1 else if (leN so ki ro size.toNat) = 0 ∨ (stN sm ki oo size.toNat) = 0 then 0 else 2) else -2) = (if 0 ≤ a ∧ a ≤ 5 then (if TG (foF fi told) so sl (tot) a (tnN ki ro size.toNat) (if a = 3 then blN cs mp so sm sp sb (tot) ki ro oo size.toNat else loN cs mp so sm ki ro oo size.toNat) (chN cs mp so sm (tot) ki ro oo size.toNat) ≤ ruN ki ro size.toNat then 1 else if leN so ki ro size.toNat = 0 ∨ stN sm ki oo size.toNat = 0 then 0 else 2) else -2) := by
  by_cases q : 0 ≤ a ∧ a ≤ 5
  · rw [if_pos q, if_pos q, tg_tie (cs := cs) (mp := mp) (sp := sp) (sb := sb) (sl := sl) ho ho2 hF hE q.1 q.2 (n := size.toNat) (by have := hE.1; omega)]
  · rw [if_neg q, if_neg q]
theorem gain_tie {cs mp fo fi : Int → Int} {so sm sp sb sl told tot size so2 sm2 rn a : Int} {ev ki ro oo : Int → Int} (ho : 1 ≤ so) (ho2 : so ≤ 12) (hF : ivF so told tot fo fi) (hE : ivE so sm size so2 sm2 rn ev ki ro oo) : (if 0 ≤ a ∧ a ≤ 5 then (if (lrN ev size.toNat) = -1 then -4 else inM (WN cs mp (ev ((lrN ev size.toNat) * 6 + 3) - ev ((lrN ev size.toNat) * 6 + 1)).toNat (ev ((lrN ev size.toNat) * 6 + 4)) (TG fo so sl tot a (utN ev ((lrN ev size.toNat) + 1).toNat) (ulN cs mp so sm sp sb tot a ev ((lrN ev size.toNat) + 1).toNat) (ukN cs mp tot a ev ((lrN ev size.toNat) + 1).toNat) - ev ((lrN ev size.toNat) * 6 + 5))) (ev ((lrN ev size.toNat) * 6 + 3) - ev ((lrN ev size.toNat) * 6 + 1)) - inM (WN cs mp (ev ((lrN ev size.toNat) * 6 + 3)).toNat (ev ((lrN ev size.toNat) * 6 + 4)) (TG fo so sl tot a (utN ev (lrN ev size.toNat).toNat) (ulN cs mp so sm sp sb tot a ev (lrN ev size.toNat).toNat) (ukN cs mp tot a ev (lrN ev size.toNat).toNat) - ev ((lrN ev size.toNat) * 6 + 5))) (ev ((lrN ev size.toNat) * 6 + 3)) + 1000000) else -2) = (if 0 ≤ a ∧ a ≤ 5 then (if (lmN ki size.toNat) = -1 then -4 else inM (WN cs mp (leN so ki ro ((lmN ki size.toNat) + 1).toNat).toNat (stN sm ki oo ((lmN ki size.toNat) + 1).toNat) (TG (foF fi told) so sl (tot) a (tnN ki ro ((lmN ki size.toNat) + 1).toNat) (if a = 3 then blN cs mp so sm sp sb (tot) ki ro oo ((lmN ki size.toNat) + 1).toNat else loN cs mp so sm ki ro oo ((lmN ki size.toNat) + 1).toNat) (chN cs mp so sm (tot) ki ro oo ((lmN ki size.toNat) + 1).toNat) - ruN ki ro ((lmN ki size.toNat) + 1).toNat)) (leN so ki ro ((lmN ki size.toNat) + 1).toNat) - inM (WN cs mp (leN so ki ro (lmN ki size.toNat).toNat).toNat (stN sm ki oo (lmN ki size.toNat).toNat) (TG (foF fi told) so sl (tot) a (tnN ki ro (lmN ki size.toNat).toNat) (if a = 3 then blN cs mp so sm sp sb (tot) ki ro oo (lmN ki size.toNat).toNat else loN cs mp so sm ki ro oo (lmN ki size.toNat).toNat) (chN cs mp so sm (tot) ki ro oo (lmN ki size.toNat).toNat) - ruN ki ro (lmN ki size.toNat).toNat)) (leN so ki ro (lmN ki size.toNat).toNat) + 1000000) else -2) := by
  by_cases q : 0 ≤ a ∧ a ≤ 5
  · rw [if_pos q, if_pos q, lr_tie size.toNat (evv hE (by have := hE.1; omega))]
    have h0 := hE.1
    rcases lmN_1 (ki := ki) size.toNat with z | ⟨z1, z2, z3⟩
    · rw [if_pos z, if_pos z]
    · generalize lmN ki size.toNat = y at z1 z2 z3 ⊢
      have e := hE.2.2.2.2.2.2 y z1 (by omega)
      have hl : leN so ki ro (y + 1).toNat = leN so ki ro y.toNat - ro y := by rw [leN_s so ki ro z1, if_neg (by omega)]
      have hs : stN sm ki oo (y + 1).toNat = stN sm ki oo y.toNat := by rw [stN_s sm ki oo z1, if_neg (by omega)]
      have hr : ruN ki ro (y + 1).toNat = ruN ki ro y.toNat := by rw [ruN_s ki ro z1, if_neg (by omega)]
      rw [if_neg (by omega), if_neg (by omega), e.2.1, e.2.2.2.1, e.2.2.2.2.1, e.2.2.2.2.2, hl, hs, hr, tg_tie (cs := cs) (mp := mp) (sp := sp) (sb := sb) (sl := sl) ho ho2 hF hE q.1 q.2 (n := y.toNat) (by omega), tg_tie (cs := cs) (mp := mp) (sp := sp) (sb := sb) (sl := sl) ho ho2 hF hE q.1 q.2 (n := (y + 1).toNat) (by omega)]
  · rw [if_neg q, if_neg q]
theorem tried_tie {cs mp : Int → Int} {so sm ms : Int} {mt mv mw mx : Int → Int} (h : ivA ms mt mv mw mx) : (mdN cs mp (fun j => mt (j * 3)) (fun j => mt (j * 3 + 1)) (fun j => mt (j * 3 + 2)) so sm ms.toNat) = (mdN cs mp mv mw mx so sm ms.toNat) :=
  mdN_cong ms.toNat (fun i a b => (h.2.2 i a (by have := h.1; omega)).1)
theorem ivS_game {tx : Int → Int} {len so sm sp sb sc sd sl : Int} (hl : 0 ≤ len) (h : ivS so sm sp sb sc sd sl) : ivS (stA tx len 0 so (gn tx len)) (stA tx len 1 sm (gn tx len)) (stA tx len 3 sp (gn tx len)) (stB tx len 3 sb (gn tx len)) (stA tx len 4 sc (gn tx len)) (stB tx len 4 sd (gn tx len)) (stA tx len 5 sl (gn tx len)) := by
  obtain ⟨h1, h2, h3, h4, h5, h6, h7⟩ := h
  exact ⟨stA_all h1 _ (fun j a w => ln_v0 (gn_ok hl a) w), stA_all h2 _ (fun j a w => ln_v1 (gn_ok hl a) w), stA_all h3 _ (fun j a w => (ln_v3 (gn_ok hl a) w).1), stB_all h4 _ (fun j a w => (ln_v3 (gn_ok hl a) w).2), stA_all h5 _ (fun j a w => (ln_v4 (gn_ok hl a) w).1), stB_all h6 _ (fun j a w => (ln_v4 (gn_ok hl a) w).2), stA_all h7 _ (fun j a w => ln_v5 (gn_ok hl a) w)⟩
theorem no3 {tx : Int → Int} {len : Int} (hl : 0 ≤ len) (h : ¬ hs3 tx len (gn tx len) = 1) : ¬ hsL tx len 0 (gn tx len) = 1 ∧ ¬ hsL tx len 1 (gn tx len) = 1 ∧ ¬ hsL tx len 2 (gn tx len) = 1 := by
  have o := hs3_or (g := tx) (len := len) (gn tx len) (fun j a => gn_ok hl a)
  exact ⟨fun q => h (o.mpr (Or.inl q)), fun q => h (o.mpr (Or.inr (Or.inl q))), fun q => h (o.mpr (Or.inr (Or.inr q)))⟩
theorem ivM_game {tx cs mp me ch me2 ch2 mn wi : Int → Int} {len so sm mla : Int} (hl : 0 ≤ len) (h : ivM cs mp me ch so sm mla mn wi) (h1 : MeanOK (csN tx len cs (gn tx len)) (mpN tx len mp (gn tx len)) me2) (h2 : MemoOK (csN tx len cs (gn tx len)) (mpN tx len mp (gn tx len)) ch2) : ivM (csN tx len cs (gn tx len)) (mpN tx len mp (gn tx len)) me2 ch2 (stA tx len 0 so (gn tx len)) (stA tx len 1 sm (gn tx len)) (if hs3 tx len (gn tx len) = 1 then 0 else mla) mn wi := by
  refine ⟨MoodOK_N h.1 _ (fun j a => gn_ok hl a), h1, h2, ?_⟩
  by_cases q : hs3 tx len (gn tx len) = 1
  · rw [if_pos q]; exact ⟨Or.inl rfl, fun z => absurd z (by decide)⟩
  · obtain ⟨n0, n1, n2⟩ := no3 hl q
    rw [if_neg q, (csN_no cs mp _ n2).1, (csN_no cs mp _ n2).2, stA_no _ n0, stA_no _ n1]
    exact h.2.2.2
theorem ivF_game {tx fo fi : Int → Int} {len so told tot : Int} (hl : 0 ≤ len) (h : ivF so told tot fo fi) (hs : 1 ≤ stA tx len 0 so (gn tx len)) : ivF (stA tx len 0 so (gn tx len)) (if hsL tx len 0 (gn tx len) = 1 then 0 else told) (if hsL tx len 0 (gn tx len) = 1 then 0 else tot) (if hsL tx len 0 (gn tx len) = 1 then fiF fo 0 12 else fo) fi := by
  by_cases q : hsL tx len 0 (gn tx len) = 1
  · simp only [if_pos q]; exact ivF_0 h (by omega)
  · simp only [if_neg q]; rw [stA_no _ q]; exact h
theorem ivE_game {tx ev ki ro oo : Int → Int} {len so sm size so2 sm2 rn : Int} (hl : 0 ≤ len) (h : ivE so sm size so2 sm2 rn ev ki ro oo) : ivE (stA tx len 0 so (gn tx len)) (stA tx len 1 sm (gn tx len)) (if hs3 tx len (gn tx len) = 1 then 0 else size) (if hs3 tx len (gn tx len) = 1 then stA tx len 0 so (gn tx len) else so2) (if hs3 tx len (gn tx len) = 1 then stA tx len 1 sm (gn tx len) else sm2) (if hs3 tx len (gn tx len) = 1 then 0 else rn) ev ki ro oo := by
  by_cases q : hs3 tx len (gn tx len) = 1
  · simp only [if_pos q]; exact ivE_0 h _ _
  · obtain ⟨n0, n1, n2⟩ := no3 hl q
    simp only [if_neg q]; rw [stA_no _ n0, stA_no _ n1]; exact h
theorem ivT_game {tx wd wd2 : Int → Int} {len : Int} (h : ivT tx wd len) (h2 : ∀ k, -1 ≤ wd2 k ∧ wd2 k ≤ 5) : ivT tx wd2 (if (rdT tx len).1 = -1 then 0 else len) := by
  by_cases q : (rdT tx len).1 = -1
  · rw [if_pos q]; exact ivT_0 h h2
  · rw [if_neg q]; exact ⟨h.1, h.2.1, h.2.2.1, h2⟩
theorem ivM_m {cs mp me ch ch2 mn wi mn2 wi2 : Int → Int} {so sm mla la2 : Int} (h : ivM cs mp me ch so sm mla mn wi) (h1 : MemoOK cs mp ch2) (h2 : LD cs mp so sm la2 mn2 wi2) : ivM cs mp me ch2 so sm la2 mn2 wi2 := ⟨h.1, h.2.1, h1, h2⟩
