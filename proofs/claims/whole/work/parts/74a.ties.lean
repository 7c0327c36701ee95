/-! ===== what holds between two calls ===== -/
def ivT (tx wd : Int → Int) (len : Int) : Prop := 0 ≤ len ∧ len ≤ 200 ∧ (∀ k, 0 ≤ tx k ∧ tx k ≤ 255) ∧ (∀ k, -1 ≤ wd k ∧ wd k ≤ 5)
def ivS (so sm sp sb sc sd sl : Int) : Prop := (1 ≤ so ∧ so ≤ 12) ∧ (1 ≤ sm ∧ sm ≤ 10) ∧ (0 ≤ sp ∧ sp ≤ 400) ∧ (1 ≤ sb ∧ sb ≤ 300) ∧ (0 ≤ sc ∧ sc ≤ 10) ∧ (0 ≤ sd ∧ sd ≤ 12) ∧ (0 ≤ sl ∧ sl ≤ 99)
def ivM (cs mp me ch : Int → Int) (so sm mla : Int) (mn wi : Int → Int) : Prop := MoodOK cs mp ∧ MeanOK cs mp me ∧ MemoOK cs mp ch ∧ LD cs mp so sm mla mn wi
def ivF (so told tot : Int) (fo fi : Int → Int) : Prop := 0 ≤ told ∧ told ≤ so ∧ tot = sumN fi told.toNat ∧ (∀ k, 0 ≤ fi k ∧ fi k ≤ 36) ∧ (∀ k, 0 ≤ fo k ∧ fo k ≤ 36) ∧ (∀ k, 0 ≤ k → k < 12 → fo k = foF fi told k)
def evE (so sm : Int) (ev ki ro oo : Int → Int) (i : Int) : Prop := ev (i * 6 + 0) = ki i ∧ ev (i * 6 + 1) = ro i ∧ ev (i * 6 + 2) = oo i ∧ ev (i * 6 + 3) = leN so ki ro i.toNat ∧ ev (i * 6 + 4) = stN sm ki oo i.toNat ∧ ev (i * 6 + 5) = ruN ki ro i.toNat
def ivE (so sm size so2 sm2 rn : Int) (ev ki ro oo : Int → Int) : Prop := 0 ≤ size ∧ EvM so size ki ro oo ∧ so2 = leN so ki ro size.toNat ∧ sm2 = stN sm ki oo size.toNat ∧ rn = ruN ki ro size.toNat ∧ (∀ k, I32 (ev k)) ∧ (∀ i, 0 ≤ i → i < size → evE so sm ev ki ro oo i)
def ivA (ms : Int) (mt mv mw mx : Int → Int) : Prop := 0 ≤ ms ∧ ms ≤ 24 ∧ ∀ i, 0 ≤ i → i < ms → (mt (i * 3) = mv i ∧ mt (i * 3 + 1) = mw i ∧ mt (i * 3 + 2) = mx i) ∧ (0 ≤ mv i ∧ mv i ≤ 12) ∧ (0 ≤ mw i ∧ mw i ≤ 10) ∧ (0 ≤ mx i ∧ mx i ≤ 999)
/-! ===== bytes ===== -/
theorem and_bd (x : Int32) {m : Int32} (k : Nat) (hm : m.toBitVec.toNat = 2 ^ k - 1) (hk : k ≤ 30) : 0 ≤ (x &&& m).toInt ∧ (x &&& m).toInt < (2 : Int) ^ k := by
  obtain ⟨j, hj, e⟩ := pk_andE x k hm
  have h2 : 2 ^ k ≤ 2 ^ 30 := Nat.pow_le_pow_right (by decide) hk
  have h3 : (2 : Nat) ^ 30 = 1073741824 := by decide
  have e2 : (nI j).toInt = (j : Int) := by
    show (Int32.ofNat j).toInt = _
    rw [nZ_nat, nZ_toInt ⟨by omega, by omega⟩]
  rw [e, e2]
  have h4 : ((2 ^ k : Nat) : Int) = (2 : Int) ^ k := by simp
  omega
theorem byteF_bd (b : Int64) (i : Int) : 0 ≤ byteF b i ∧ byteF b i ≤ 255 := by
  unfold byteF
  rw [Int64.toInt32_and]
  have h := and_bd ((b >>> ((nZ (8 * i)).toInt64 &&& 63)).toInt32) (m := (lZ 255).toInt32) 8 (by decide) (by decide)
  have e : (2 : Int) ^ 8 = 256 := by decide
  omega
theorem apF_bd {tx : Int → Int} (h : ∀ k, 0 ≤ tx k ∧ tx k ≤ 255) (len : Int) (b : Int64) (n : Int) : ∀ k, 0 ≤ apF tx len b n k ∧ apF tx len b n k ≤ 255 := fun k => by
  unfold apF; split
  · exact byteF_bd _ _
  · exact h k
theorem ivT_write {tx wd : Int → Int} {len : Int} (h : ivT tx wd len) (b : Int64) (n : Int) : ivT (if (1 ≤ n ∧ n ≤ 8) ∧ len + n ≤ 200 then apF tx len b n else tx) wd (if (1 ≤ n ∧ n ≤ 8) ∧ len + n ≤ 200 then len + n else len) := by
  obtain ⟨h1, h2, h3, h4⟩ := h
  by_cases q : (1 ≤ n ∧ n ≤ 8) ∧ len + n ≤ 200
  · rw [if_pos q, if_pos q]; exact ⟨by omega, by omega, apF_bd h3 _ _ _, h4⟩
  · rw [if_neg q, if_neg q]; exact ⟨h1, h2, h3, h4⟩
theorem ivT_0 {tx wd wd2 : Int → Int} {len : Int} (h : ivT tx wd len) (h2 : ∀ k, -1 ≤ wd2 k ∧ wd2 k ≤ 5) : ivT tx wd2 0 := ⟨by decide, by decide, h.2.2.1, h2⟩
/-! ===== the first side ===== -/
theorem foF_uZ {fi : Int → Int} {told a : Int} : ∀ k, foF (uZ fi told a) (told + 1) k = uZ (foF fi told) told a k := fun k => by
  by_cases q : k = told
  · rw [q, uZ_s]; unfold foF; rw [if_pos (by omega), uZ_s]
  · rw [uZ_n _ _ q]; unfold foF
    by_cases c : k < told
    · rw [if_pos (by omega), if_pos c, uZ_n _ _ q]
    · rw [if_neg (by omega), if_neg c]
theorem ivF_bat {so told : Int} {fo fi : Int → Int} (h : ivF so told (sumN fi told.toNat) fo fi) (a : Int) : ivF so (if (0 ≤ a ∧ a ≤ 36) ∧ told < so then told + 1 else told) (if (0 ≤ a ∧ a ≤ 36) ∧ told < so then (sumN fi told.toNat) + a else (sumN fi told.toNat)) (if (0 ≤ a ∧ a ≤ 36) ∧ told < so then uZ fo told a else fo) (if (0 ≤ a ∧ a ≤ 36) ∧ told < so then uZ fi told a else fi) := by
  obtain ⟨h1, h2, h3, h4, h5, h6⟩ := h
  by_cases q : (0 ≤ a ∧ a ≤ 36) ∧ told < so
  · simp only [if_pos q]
    have ub : ∀ f : Int → Int, (∀ k, 0 ≤ f k ∧ f k ≤ 36) → ∀ k, 0 ≤ uZ f told a k ∧ uZ f told a k ≤ 36 := fun f hf k => by
      by_cases e : k = told
      · rw [e, uZ_s]; exact q.1
      · rw [uZ_n _ _ e]; exact hf k
    refine ⟨by omega, by omega, ?_, ub fi h4, ub fo h5, fun k a0 a1 => ?_⟩
    · rw [sumN_s _ h1, uZ_s]
      congr 1
      exact sumN_cong (fun i i0 i1 => (uZ_n _ _ (by omega)).symm)
    · rw [foF_uZ]
      by_cases e : k = told
      · rw [e, uZ_s, uZ_s]
      · rw [uZ_n _ _ e, uZ_n _ _ e]; exact h6 k a0 a1
  · simp only [if_neg q]; exact ⟨h1, h2, h3, h4, h5, h6⟩
theorem ivF_0 {so told tot : Int} {fo fi : Int → Int} (h : ivF so told tot fo fi) {so2 : Int} (h1 : 0 ≤ so2) : ivF so2 0 0 (fiF fo 0 12) fi := by
  obtain ⟨_, _, _, h4, h5, _⟩ := h
  refine ⟨by decide, h1, rfl, h4, fun k => ?_, fun k a b => ?_⟩
  · unfold fiF; split
    · exact ⟨by decide, by decide⟩
    · exact h5 k
  · unfold fiF foF; rw [if_pos ⟨a, b⟩, if_neg (by omega)]
theorem rkN_cong {f g : Int → Int} {j : Int} : ∀ n : Nat, (∀ k, 0 ≤ k → k < (n : Int) → f k = g k) → f j = g j → rkN f j n = rkN g j n
  | 0, _, _ => rfl
  | n + 1, h, hj => by
    rw [rkN, rkN, rkN_cong n (fun k a b => h k a (by omega)) hj, h (n : Int) (by omega) (by omega), hj]
theorem woN_cong {f g : Int → Int} {t al : Int} (hal : 0 ≤ al) (h : ∀ k, 0 ≤ k → k < al → f k = g k) : ∀ n : Nat, (n : Int) ≤ al → woN f t al n = woN g t al n
  | 0, _ => rfl
  | n + 1, hn => by
    have e := h (n : Int) (by omega) (by omega)
    rw [woN, woN, woN_cong hal h n (by omega), e, rkN_cong (f := f) (g := g) al.toNat (fun k a b => h k a (by omega)) e]
theorem TG_fo {f g : Int → Int} {so sl tot rule t l k : Int} (ho : 1 ≤ so) (ho2 : so ≤ 12) (h : ∀ k, 0 ≤ k → k < 12 → f k = g k) : TG f so sl tot rule t l k = TG g so sl tot rule t l k := by
  unfold TG
  rw [woN_cong (f := f) (g := g) (t := t) (al := so) (by omega) (fun k a b => h k a (by omega)) so.toNat (by omega)]
theorem ST1_fo {cs mp f g : Int → Int} {so sm sp sb sl tot a u k : Int} (ho : 1 ≤ so) (ho2 : so ≤ 12) (h : ∀ k, 0 ≤ k → k < 12 → f k = g k) : ST1 cs mp f so sm sp sb sl tot a u k = ST1 cs mp g so sm sp sb sl tot a u k := by
  unfold ST1; exact TG_fo ho ho2 h
theorem odP_fo {cs mp f g : Int → Int} {so sm sp sb sl tot a : Int} (ho : 1 ≤ so) (ho2 : so ≤ 12) (h : ∀ k, 0 ≤ k → k < 12 → f k = g k) : odP cs mp f so sm sp sb sl tot a = odP cs mp g so sm sp sb sl tot a := by
  funext u k; unfold odP; rw [ST1_fo ho ho2 h]
theorem clF_fo {cs mp f g : Int → Int} {so sm sp sb sl tot ct a k : Int} (ho : 1 ≤ so) (ho2 : so ≤ 12) (h : ∀ k, 0 ≤ k → k < 12 → f k = g k) : clF cs mp f so sm sp sb sl tot ct a k = clF cs mp g so sm sp sb sl tot ct a k := by
  unfold clF; rw [ST1_fo ho ho2 h]
/-! ===== the second side ===== -/
theorem leN_cong {ov : Int} {k1 k2 r1 r2 : Int → Int} : ∀ n : Nat, (∀ i, 0 ≤ i → i < (n : Int) → k1 i = k2 i ∧ r1 i = r2 i) → leN ov k1 r1 n = leN ov k2 r2 n
  | 0, _ => rfl
  | n + 1, h => by
    have e := h (n : Int) (by omega) (by omega)
    rw [leN, leN, leN_cong n (fun i a b => h i a (by omega)), e.1, e.2]
theorem stN_cong {mn : Int} {k1 k2 r1 r2 : Int → Int} : ∀ n : Nat, (∀ i, 0 ≤ i → i < (n : Int) → k1 i = k2 i ∧ r1 i = r2 i) → stN mn k1 r1 n = stN mn k2 r2 n
  | 0, _ => rfl
  | n + 1, h => by
    have e := h (n : Int) (by omega) (by omega)
    rw [stN, stN, stN_cong n (fun i a b => h i a (by omega)), e.1, e.2]
theorem ruN_cong {k1 k2 r1 r2 : Int → Int} : ∀ n : Nat, (∀ i, 0 ≤ i → i < (n : Int) → k1 i = k2 i ∧ r1 i = r2 i) → ruN k1 r1 n = ruN k2 r2 n
  | 0, _ => rfl
  | n + 1, h => by
    have e := h (n : Int) (by omega) (by omega)
    rw [ruN, ruN, ruN_cong n (fun i a b => h i a (by omega)), e.1, e.2]
theorem ev_bd {cs mp : Int → Int} (hM : MoodOK cs mp) {so sm size so2 sm2 rn : Int} {ev ki ro oo : Int → Int} (ho : 1 ≤ so) (hm : 0 ≤ sm) (h : ivE so sm size so2 sm2 rn ev ki ro oo) : ∀ k : Nat, (k : Int) ≤ size → (0 ≤ leN so ki ro k ∧ (k : Int) + leN so ki ro k ≤ so) ∧ (0 ≤ stN sm ki oo k ∧ stN sm ki oo k ≤ sm) ∧ (0 ≤ ruN ki ro k ∧ ruN ki ro k ≤ 36 * (k : Int)) := fun k hk => by
  have a := evm_bd hM (mn := sm) (pr := 0) (be := 1) (f := 0) ho hm (by decide) (by decide) h.2.1 k hk
  exact ⟨⟨a.1.1, a.1.2.1⟩, a.2.1, a.2.2.1⟩
theorem evB_of {cs mp : Int → Int} (hM : MoodOK cs mp) {so sm size so2 sm2 rn : Int} {ev ki ro oo : Int → Int} (ho : 1 ≤ so) (ho2 : so ≤ 12) (hm : 0 ≤ sm) (h : ivE so sm size so2 sm2 rn ev ki ro oo) : EvB so sm size ev := fun i a b => by
  have e := h.2.2.2.2.2.2 i a b
  have d := ev_bd hM ho hm h i.toNat (by omega)
  refine ⟨h.2.2.2.2.2.1 _, fun q => ?_⟩
  have v := h.2.1 i a b
  rw [e.2.1, e.2.2.2.1, e.2.2.2.2.1, e.2.2.2.2.2]
  rw [e.1] at q
  rcases v with v | v <;> omega
theorem evF_o (ev : Int → Int) {n a b d o m r k : Int} (h : k < n * 6 ∨ n * 6 + 5 < k) : evF ev n a b d o m r k = ev k := by
  unfold evF
  rw [uZ_n _ _ (by omega), uZ_n _ _ (by omega), uZ_n _ _ (by omega), uZ_n _ _ (by omega), uZ_n _ _ (by omega), uZ_n _ _ (by omega)]
theorem evF_at (ev : Int → Int) (n a b d o m r : Int) : evF ev n a b d o m r (n * 6 + 0) = a ∧ evF ev n a b d o m r (n * 6 + 1) = b ∧ evF ev n a b d o m r (n * 6 + 2) = d ∧ evF ev n a b d o m r (n * 6 + 3) = o ∧ evF ev n a b d o m r (n * 6 + 4) = m ∧ evF ev n a b d o m r (n * 6 + 5) = r := by
  unfold evF
  refine ⟨?_, ?_, ?_, ?_, ?_, ?_⟩
  · rw [uZ_n _ _ (by omega), uZ_n _ _ (by omega), uZ_n _ _ (by omega), uZ_n _ _ (by omega), uZ_n _ _ (by omega), uZ_s]
  · rw [uZ_n _ _ (by omega), uZ_n _ _ (by omega), uZ_n _ _ (by omega), uZ_n _ _ (by omega), uZ_s]
  · rw [uZ_n _ _ (by omega), uZ_n _ _ (by omega), uZ_n _ _ (by omega), uZ_s]
  · rw [uZ_n _ _ (by omega), uZ_n _ _ (by omega), uZ_s]
  · rw [uZ_n _ _ (by omega), uZ_s]
  · rw [uZ_s]
theorem evF_32 {ev : Int → Int} {n a b d o m r : Int} (h : ∀ k, I32 (ev k)) (ha : I32 a) (hb : I32 b) (hd : I32 d) (ho : I32 o) (hm : I32 m) (hr : I32 r) : ∀ k, I32 (evF ev n a b d o m r k) := by
  have st : ∀ (f : Int → Int) (i x : Int), (∀ k, I32 (f k)) → I32 x → ∀ k, I32 (uZ f i x k) := fun f i x hf hx k => by
    by_cases e : k = i
    · rw [e, uZ_s]; exact hx
    · rw [uZ_n _ _ e]; exact hf k
  unfold evF
  exact st _ _ _ (st _ _ _ (st _ _ _ (st _ _ _ (st _ _ _ (st _ _ _ h ha) hb) hd) ho) hm) hr
/-- one event more -/
theorem ivE_add {so sm size so2 sm2 rn : Int} {ev ki ro oo : Int → Int} {a b d : Int} (h : ivE so sm size so2 sm2 rn ev ki ro oo) (hb1 : I32 so2) (hb2 : I32 sm2) (hb3 : I32 rn) (ha : a = 0 ∨ a = 1) (hb : I32 b) (hd : I32 d)
    (hv : (a = 0 ∧ 0 ≤ b ∧ b ≤ 36 ∧ 0 ≤ d ∧ d ≤ 3 ∧ 1 ≤ so2) ∨ (a = 1 ∧ 1 ≤ b ∧ b ≤ so2)) : ivE so sm (size + 1) (if a = 0 then so2 - 1 else so2 - b) (if a = 0 then (if sm2 < d then 0 else sm2 - d) else sm2) (if a = 0 then rn + b else rn) (evF ev size a b d so2 sm2 rn) (uZ ki size a) (uZ ro size b) (uZ oo size d) := by
  obtain ⟨h0, h1, h2, h3, h4, h5, h6⟩ := h
  have cl : ∀ n : Nat, (n : Int) ≤ size → leN so (uZ ki size a) (uZ ro size b) n = leN so ki ro n := fun n hn => leN_cong n (fun i x y => ⟨uZ_n _ _ (by omega), uZ_n _ _ (by omega)⟩)
  have cs : ∀ n : Nat, (n : Int) ≤ size → stN sm (uZ ki size a) (uZ oo size d) n = stN sm ki oo n := fun n hn => stN_cong n (fun i x y => ⟨uZ_n _ _ (by omega), uZ_n _ _ (by omega)⟩)
  have cr : ∀ n : Nat, (n : Int) ≤ size → ruN (uZ ki size a) (uZ ro size b) n = ruN ki ro n := fun n hn => ruN_cong n (fun i x y => ⟨uZ_n _ _ (by omega), uZ_n _ _ (by omega)⟩)
  have z1 := cl size.toNat (by omega)
  have z2 := cs size.toNat (by omega)
  have z3 := cr size.toNat (by omega)
  refine ⟨by omega, fun i i0 i1 => ?_, ?_, ?_, ?_, ?_, fun i i0 i1 => ?_⟩
  · rw [cl i.toNat (by omega)]
    by_cases e : i = size
    · rw [e, uZ_s, uZ_s, uZ_s, ← h2]
      rcases hv with v | v
      · exact Or.inl ⟨v.1, v.2.1, v.2.2.1, v.2.2.2.1, v.2.2.2.2.1, v.2.2.2.2.2⟩
      · exact Or.inr v
    · rw [uZ_n _ _ e, uZ_n _ _ e, uZ_n _ _ e]; exact h1 i i0 (by omega)
  · rw [leN_s so _ _ h0, uZ_s, uZ_s, z1, ← h2]
  · rw [stN_s sm _ _ h0, uZ_s, uZ_s, z2, ← h3]
  · rw [ruN_s _ _ h0, uZ_s, uZ_s, z3, ← h4]
  · exact evF_32 h5 (by omega) hb hd hb1 hb2 hb3
  · unfold evE
    rw [cl i.toNat (by omega), cs i.toNat (by omega), cr i.toNat (by omega)]
    by_cases e : i = size
    · rw [e, uZ_s, uZ_s, uZ_s, ← h2, ← h3, ← h4]; exact evF_at ev size a b d so2 sm2 rn
    · rw [uZ_n _ _ e, uZ_n _ _ e, uZ_n _ _ e, evF_o _ (by omega), evF_o _ (by omega), evF_o _ (by omega), evF_o _ (by omega), evF_o _ (by omega), evF_o _ (by omega)]
      exact h6 i i0 (by omega)
theorem ivE_0 {so sm size so2 sm2 rn : Int} {ev ki ro oo : Int → Int} (h : ivE so sm size so2 sm2 rn ev ki ro oo) (so1 sm1 : Int) : ivE so1 sm1 0 so1 sm1 0 ev ki ro oo := ⟨by decide, fun i a b => by omega, rfl, rfl, rfl, h.2.2.2.2.2.1, fun i a b => by omega⟩
theorem ivE_play {cs mp : Int → Int} (hM : MoodOK cs mp) {so sm size : Int} {ev ki ro oo : Int → Int} (ho : 1 ≤ so) (ho2 : so ≤ 12) (hm : 0 ≤ sm) (hm2 : sm ≤ 10) (h : ivE so sm size (leN so ki ro size.toNat) (stN sm ki oo size.toNat) (ruN ki ro size.toNat) ev ki ro oo) (a b : Int) {C : Prop} [Decidable C] (hC : C ↔ ((0 ≤ a ∧ a ≤ 36) ∧ (0 ≤ b ∧ b ≤ 3)) ∧ (0 < leN so ki ro size.toNat ∧ 0 < stN sm ki oo size.toNat)) :
    ivE so sm (if C then size + 1 else size) (if C then (leN so ki ro size.toNat) - 1 else (leN so ki ro size.toNat)) (if C then (if 0 < (stN sm ki oo size.toNat) - b then (stN sm ki oo size.toNat) - b else 0) else (stN sm ki oo size.toNat)) (if C then (ruN ki ro size.toNat) + a else (ruN ki ro size.toNat)) (if C then evF ev size 0 a b (leN so ki ro size.toNat) (stN sm ki oo size.toNat) (ruN ki ro size.toNat) else ev) (if C then uZ ki size 0 else ki) (if C then uZ ro size a else ro) (if C then uZ oo size b else oo) := by
  have d := ev_bd hM ho hm h size.toNat (by have := h.1; omega)
  have h0 := h.1
  by_cases q : C
  · have c := hC.mp q
    simp only [if_pos q]
    have r := ivE_add (a := 0) (b := a) (d := b) h (by omega) (by omega) (by omega) (Or.inl rfl) (by omega) (by omega) (Or.inl (by omega))
    rw [if_pos rfl, if_pos rfl, if_pos rfl] at r
    have e : (if stN sm ki oo size.toNat < b then 0 else stN sm ki oo size.toNat - b) = (if 0 < (stN sm ki oo size.toNat) - b then (stN sm ki oo size.toNat) - b else 0) := by split <;> split <;> omega
    rw [e] at r
    exact r
  · simp only [if_neg q]; exact h
theorem ivE_rain {cs mp : Int → Int} (hM : MoodOK cs mp) {so sm size : Int} {ev ki ro oo : Int → Int} (ho : 1 ≤ so) (ho2 : so ≤ 12) (hm : 0 ≤ sm) (hm2 : sm ≤ 10) (h : ivE so sm size (leN so ki ro size.toNat) (stN sm ki oo size.toNat) (ruN ki ro size.toNat) ev ki ro oo) (a : Int) {C : Prop} [Decidable C] (hC : C ↔ (1 ≤ a ∧ a ≤ 12) ∧ a ≤ leN so ki ro size.toNat) :
    ivE so sm (if C then size + 1 else size) (if C then (leN so ki ro size.toNat) - a else (leN so ki ro size.toNat)) (if C then (stN sm ki oo size.toNat) else (stN sm ki oo size.toNat)) (if C then (ruN ki ro size.toNat) else (ruN ki ro size.toNat)) (if C then evF ev size 1 a 0 (leN so ki ro size.toNat) (stN sm ki oo size.toNat) (ruN ki ro size.toNat) else ev) (if C then uZ ki size 1 else ki) (if C then uZ ro size a else ro) (if C then uZ oo size 0 else oo) := by
  have d := ev_bd hM ho hm h size.toNat (by have := h.1; omega)
  have h0 := h.1
  by_cases q : C
  · have c := hC.mp q
    simp only [if_pos q]
    have r := ivE_add (a := 1) (b := a) (d := 0) h (by omega) (by omega) (by omega) (Or.inr rfl) (by omega) (by decide) (Or.inr (by omega))
    rw [if_neg (by decide), if_neg (by decide), if_neg (by decide)] at r
    exact r
  · simp only [if_neg q]; exact h
/-! ===== the umpire ===== -/
theorem ut_tie {so sm : Int} {ev ki ro oo : Int → Int} : ∀ n : Nat, (∀ i, 0 ≤ i → i < (n : Int) → evE so sm ev ki ro oo i ∧ (ki i = 0 ∨ ki i = 1)) → utN ev n = tnN ki ro n
  | 0, _ => rfl
  | n + 1, h => by
    obtain ⟨e, v⟩ := h (n : Int) (by omega) (by omega)
    rw [utN, tnN, ut_tie n (fun i a b => h i a (by omega)), e.1, e.2.1]
    rcases v with v | v
    · rw [v, if_neg (by decide), if_pos rfl]
    · rw [v, if_pos rfl, if_neg (by decide)]
theorem ul_tie {cs mp : Int → Int} {so sm sp sb tot a : Int} {ev ki ro oo : Int → Int} (ha : a = 2 ∨ a = 3) : ∀ n : Nat, (∀ i, 0 ≤ i → i < (n : Int) → evE so sm ev ki ro oo i ∧ (ki i = 0 ∨ ki i = 1)) → ulN cs mp so sm sp sb tot a ev n = (if a = 3 then blN cs mp so sm sp sb tot ki ro oo n else loN cs mp so sm ki ro oo n)
  | 0, _ => by rw [ulN, blN, loN]; split <;> rfl
  | n + 1, h => by
    obtain ⟨e, v⟩ := h (n : Int) (by omega) (by omega)
    have r := ul_tie (cs := cs) (mp := mp) (sp := sp) (sb := sb) (tot := tot) ha n (fun i a b => h i a (by omega))
    rw [ulN, r, e.1, e.2.1, e.2.2.2.1, e.2.2.2.2.1]
    rw [show ((n : Int)).toNat = n from rfl]
    rcases v with v | v
    · rw [v, if_neg (show ¬ ((0 : Int) = 1) by decide), blN, loN, v, if_pos rfl, if_pos rfl]
    · rw [v, if_pos rfl]
      unfold hL
      rcases ha with q | q
      · rw [if_pos q, if_neg (show ¬ a = 3 by omega), if_neg (show ¬ a = 3 by omega), loN, v, if_neg (show ¬ ((1 : Int) = 0) by decide)]
      · rw [if_neg (show ¬ a = 2 by omega), if_pos q, if_pos q, if_pos q, blN, v, if_neg (show ¬ ((1 : Int) = 0) by decide)]
theorem uk_tie {cs mp : Int → Int} {so sm tot a : Int} {ev ki ro oo : Int → Int} (ha : a = 4) : ∀ n : Nat, (∀ i, 0 ≤ i → i < (n : Int) → evE so sm ev ki ro oo i ∧ (ki i = 0 ∨ ki i = 1)) → ukN cs mp tot a ev n = chN cs mp so sm tot ki ro oo n
  | 0, _ => rfl
  | n + 1, h => by
    obtain ⟨e, v⟩ := h (n : Int) (by omega) (by omega)
    have r := uk_tie (cs := cs) (mp := mp) (tot := tot) ha n (fun i a b => h i a (by omega))
    rw [ukN, chN, r, e.1, e.2.1, e.2.2.2.1, e.2.2.2.2.1, e.2.2.2.2.2]
    rw [show ((n : Int)).toNat = n from rfl]
    rcases v with v | v
    · rw [v, if_neg (by decide), if_pos rfl]
    · rw [v, if_pos rfl, if_neg (by decide)]
      unfold hKp; rw [if_pos ha]
theorem evv {so sm size so2 sm2 rn : Int} {ev ki ro oo : Int → Int} (h : ivE so sm size so2 sm2 rn ev ki ro oo) {n : Nat} (hn : (n : Int) ≤ size) : ∀ i, 0 ≤ i → i < (n : Int) → evE so sm ev ki ro oo i ∧ (ki i = 0 ∨ ki i = 1) := fun i a b => ⟨h.2.2.2.2.2.2 i a (by omega), by
  rcases h.2.1 i a (by omega) with v | v
  · exact Or.inl v.1
  · exact Or.inr v.1⟩
/-- the target by both -/
theorem tg_tie {cs mp fo fi : Int → Int} {so sm sp sb sl told tot size so2 sm2 rn a : Int} {ev ki ro oo : Int → Int} (ho : 1 ≤ so) (ho2 : so ≤ 12) (hF : ivF so told tot fo fi) (hE : ivE so sm size so2 sm2 rn ev ki ro oo) (h0 : 0 ≤ a) (h5 : a ≤ 5) {n : Nat} (hn : (n : Int) ≤ size) :
    TG fo so sl tot a (utN ev n) (ulN cs mp so sm sp sb tot a ev n) (ukN cs mp tot a ev n) = TG (foF fi told) so sl tot a (tnN ki ro n) (if a = 3 then blN cs mp so sm sp sb tot ki ro oo n else loN cs mp so sm ki ro oo n) (chN cs mp so sm tot ki ro oo n) := by
  rw [TG_fo ho ho2 hF.2.2.2.2.2, ut_tie n (evv hE hn)]
  exact TG_cong h0 h5 (fun q => ul_tie q n (evv hE hn)) (fun q => uk_tie q n (evv hE hn))
theorem lr_tie {so sm : Int} {ev ki ro oo : Int → Int} : ∀ n : Nat, (∀ i, 0 ≤ i → i < (n : Int) → evE so sm ev ki ro oo i ∧ (ki i = 0 ∨ ki i = 1)) → lrN ev n = lmN ki n
  | 0, _ => rfl
  | n + 1, h => by
    obtain ⟨e, v⟩ := h (n : Int) (by omega) (by omega)
    rw [lrN, lmN, lr_tie n (fun i a b => h i a (by omega)), e.1]
theorem lmN_1 {ki : Int → Int} : ∀ n : Nat, lmN ki n = -1 ∨ (0 ≤ lmN ki n ∧ lmN ki n < (n : Int) ∧ ki (lmN ki n) = 1)
  | 0 => Or.inl rfl
  | n + 1 => by
    rw [lmN]
    by_cases q : ki (n : Int) = 1
    · rw [if_pos q]; exact Or.inr ⟨by omega, by omega, q⟩
    · rw [if_neg q]
      rcases lmN_1 (ki := ki) n with h | h
      · exact Or.inl h
      · exact Or.inr ⟨h.1, by omega, h.2.2⟩
theorem event_tie {so sm size so2 sm2 rn : Int} {ev ki ro oo : Int → Int} (h : ivE so sm size so2 sm2 rn ev ki ro oo) (a b : Int) : (if 0 ≤ a ∧ a < size then (if 0 ≤ b ∧ b ≤ 2 then ev (a * 6 + b) else -3) else -2) = (if 0 ≤ a ∧ a < size then (if b = 0 then ki a else if b = 1 then ro a else if b = 2 then oo a else -3) else -2) := by
  by_cases q : 0 ≤ a ∧ a < size
  · rw [if_pos q, if_pos q]
    have e := h.2.2.2.2.2.2 a q.1 q.2
    by_cases q0 : b = 0
    · rw [if_pos (by omega), if_pos q0, q0]; exact e.1
    · rw [if_neg q0]
      by_cases q1 : b = 1
      · rw [if_pos (by omega), if_pos q1, q1]; exact e.2.1
      · rw [if_neg q1]
        by_cases q2 : b = 2
        · rw [if_pos (by omega), if_pos q2, q2]; exact e.2.2.1
        · rw [if_neg (by omega), if_neg q2]
  · rw [if_neg q, if_neg q]
theorem mdN_cong {cs mp a1 a2 b1 b2 c1 c2 : Int → Int} {ov mn : Int} : ∀ n : Nat, (∀ i, 0 ≤ i → i < (n : Int) → a1 i = a2 i ∧ b1 i = b2 i ∧ c1 i = c2 i) → mdN cs mp a1 b1 c1 ov mn n = mdN cs mp a2 b2 c2 ov mn n
  | 0, _ => rfl
  | n + 1, h => by
    have e := h (n : Int) (by omega) (by omega)
    rw [mdN, mdN, mdN_cong n (fun i a b => h i a (by omega)), e.1, e.2.1, e.2.2]
theorem ivA_match {ms : Int} {mt mv mw mx : Int → Int} (h : ivA ms mt mv mw mx) (a b d : Int) {C : Prop} [Decidable C] (hC : C ↔ ((0 ≤ a ∧ a ≤ 12) ∧ (0 ≤ b ∧ b ≤ 10) ∧ (0 ≤ d ∧ d ≤ 999)) ∧ ms < 24) : ivA (if C then ms + 1 else ms) (if C then mtF mt ms a b d else mt) (if C then uZ mv ms a else mv) (if C then uZ mw ms b else mw) (if C then uZ mx ms d else mx) := by
  obtain ⟨h0, h1, h2⟩ := h
  by_cases q : C
  · have c := hC.mp q
    simp only [if_pos q]
    refine ⟨by omega, by omega, fun i i0 i1 => ?_⟩
    unfold mtF
    by_cases e : i = ms
    · rw [e, uZ_s, uZ_s, uZ_s, uZ_n _ _ (by omega), uZ_n _ _ (by omega), uZ_s, uZ_n _ _ (by omega), uZ_s, uZ_s]
      exact ⟨⟨rfl, rfl, rfl⟩, c.1⟩
    · rw [uZ_n mv _ e, uZ_n mw _ e, uZ_n mx _ e, uZ_n _ _ (by omega), uZ_n _ _ (by omega), uZ_n _ _ (by omega), uZ_n _ _ (by omega), uZ_n _ _ (by omega), uZ_n _ _ (by omega), uZ_n _ _ (by omega), uZ_n _ _ (by omega), uZ_n _ _ (by omega)]
      exact h2 i i0 (by omega)
  · simp only [if_neg q]; exact ⟨h0, h1, h2⟩
