/-! ===== bounds of what rains take ===== -/
theorem SP_mono {cs mp : Int → Int} (hM : MoodOK cs mp) {ov mn u w v : Int} (hu : 0 ≤ u) (huw : u ≤ w) (hw : w ≤ ov) : SP cs mp ov mn u v ≤ SP cs mp ov mn w v := by
  unfold SP
  split
  · rename_i h
    refine Int.ediv_le_ediv h ?_
    have h1 := MK_share hM u.toNat (Int.le_refl v) (w - u).toNat
    rw [show u.toNat + (w - u).toNat = w.toNat by omega] at h1
    have h2 : MK cs mp u.toNat v * (10 : Int) ^ (ov - u).toNat = MK cs mp u.toNat v * (10 : Int) ^ (w - u).toNat * (10 : Int) ^ (ov - w).toNat := by
      rw [Int.mul_assoc, ← Int.pow_add, show (w - u).toNat + (ov - w).toNat = (ov - u).toNat by omega]
    rw [h2]
    have h3 := Int.mul_le_mul_of_nonneg_right h1 (Int.le_of_lt (p10_pos (ov - w).toNat))
    omega
  · exact Int.le_refl _
theorem BS_mono {cs mp : Int → Int} (hM : MoodOK cs mp) {ov mn pr be tot u w v : Int} (hb : 1 ≤ be) (ho : 1 ≤ ov) (hu : 0 ≤ u) (huw : u ≤ w) (hw : w ≤ ov) : BS cs mp ov mn pr be tot u v ≤ BS cs mp ov mn pr be tot w v := by
  have h1 := SP_mono hM (mn := mn) (v := v) hu huw hw
  have h2 := bh_bd (tot := tot) (pr := pr) hb
  have h3 : 1000 * u / ov ≤ 1000 * w / ov := Int.ediv_le_ediv (by omega) (by omega)
  unfold BS
  refine Int.ediv_le_ediv (by omega) (Int.add_le_add (Int.mul_le_mul_of_nonneg_right h1 (by omega)) (Int.mul_le_mul_of_nonneg_right h3 h2.1))
theorem evm_bd {cs mp : Int → Int} (hM : MoodOK cs mp) {ov mn pr be f n : Int} {ki ro oo : Int → Int} (ho : 1 ≤ ov) (hm : 0 ≤ mn) (hb : 1 ≤ be) (hf : 0 ≤ f) (hev : EvM ov n ki ro oo) : ∀ k : Nat, (k : Int) ≤ n →
    (0 ≤ leN ov ki ro k ∧ (k : Int) + leN ov ki ro k ≤ ov ∧ 0 ≤ tnN ki ro k ∧ tnN ki ro k + leN ov ki ro k ≤ ov) ∧ (0 ≤ stN mn ki oo k ∧ stN mn ki oo k ≤ mn) ∧ (0 ≤ ruN ki ro k ∧ ruN ki ro k ≤ 36 * (k : Int)) ∧ (0 ≤ loN cs mp ov mn ki ro oo k ∧ loN cs mp ov mn ki ro oo k ≤ 1000 * (k : Int)) ∧ (0 ≤ blN cs mp ov mn pr be f ki ro oo k ∧ blN cs mp ov mn pr be f ki ro oo k ≤ 1000 * (k : Int)) ∧ (1 ≤ chN cs mp ov mn f ki ro oo k ∧ chN cs mp ov mn f ki ro oo k ≤ f + 1)
  | 0, _ => by
    refine ⟨⟨?_, ?_, ?_, ?_⟩, ⟨?_, ?_⟩, ⟨?_, ?_⟩, ⟨?_, ?_⟩, ⟨?_, ?_⟩, ?_, ?_⟩ <;> simp only [leN, tnN, stN, ruN, loN, blN, chN] <;> omega
  | k + 1, h => by
    obtain ⟨⟨a1, a2, a3, a4⟩, ⟨b1, b2⟩, ⟨d1, d2⟩, ⟨e1, e2⟩, ⟨f1, f2⟩, g1, g2⟩ := evm_bd hM ho hm hb hf hev k (by omega)
    have hk := hev (k : Int) (by omega) (by omega)
    rw [show ((k : Int)).toNat = k from rfl] at hk
    rw [leN, tnN, stN, ruN, loN, blN, chN]
    rcases hk with ⟨q, r1, r2, r3, r4, r5⟩ | ⟨q, r1, r2⟩
    · simp only [if_pos q]
      refine ⟨⟨?_, ?_, ?_, ?_⟩, ⟨?_, ?_⟩, ⟨?_, ?_⟩, ⟨?_, ?_⟩, ⟨?_, ?_⟩, ?_, ?_⟩ <;> first | omega | (split <;> omega)
    · have q0 : ¬ ki (k : Int) = 0 := by omega
      simp only [if_neg q0]
      have s1 := SP_mono hM (ov := ov) (mn := mn) (v := stN mn ki oo k) (u := leN ov ki ro k - ro (k : Int)) (w := leN ov ki ro k) (by omega) (by omega) (by omega)
      have s2 := SP_bd hM (ov := ov) (mn := mn) (u := leN ov ki ro k) a1 (by omega) b2
      have s3 := SP_bd hM (ov := ov) (mn := mn) (u := leN ov ki ro k - ro (k : Int)) (by omega) (by omega) b2
      have t1 := BS_mono hM (ov := ov) (mn := mn) (pr := pr) (tot := f) (v := stN mn ki oo k) (u := leN ov ki ro k - ro (k : Int)) (w := leN ov ki ro k) hb ho (by omega) (by omega) (by omega)
      have t2 := BS_bd hM (ov := ov) (mn := mn) (pr := pr) (tot := f) (u := leN ov ki ro k) hb a1 (by omega) ho b2
      have t3 := BS_bd hM (ov := ov) (mn := mn) (pr := pr) (tot := f) (u := leN ov ki ro k - ro (k : Int)) hb (by omega) (by omega) ho b2
      have w1 := KO_bd cs mp (leN ov ki ro k) (ro (k : Int)) (stN mn ki oo k) (ruN ki ro k) g1
      refine ⟨⟨?_, ?_, ?_, ?_⟩, ⟨?_, ?_⟩, ⟨?_, ?_⟩, ⟨?_, ?_⟩, ⟨?_, ?_⟩, ?_, ?_⟩ <;> omega
theorem tdiv_le {a b c : Int} (hb : 0 < b) (h : a ≤ c * b) (hc : 0 ≤ c) : Int.tdiv a b ≤ c := by
  rcases Int.le_total 0 a with q | q
  · rw [Int.tdiv_eq_ediv_of_nonneg q]
    have := Int.ediv_le_ediv hb h
    rw [Int.mul_ediv_cancel _ (by omega)] at this; exact this
  · have := Int.tdiv_nonneg (show 0 ≤ -a by omega) (Int.le_of_lt hb)
    rw [Int.neg_tdiv] at this; omega
theorem TG_bd {fo : Int → Int} {so sl tot rule taken lost kept : Int} (hfo : ∀ k, 0 ≤ fo k ∧ fo k ≤ 36) (ho1 : 1 ≤ so) (ho : so ≤ 12) (hl : 0 ≤ sl) (ht0 : 0 ≤ tot) (ht1 : tot ≤ 432) (ha0 : 0 ≤ taken) (hlo : 0 ≤ lost) (hk1 : 1 ≤ kept) (hk2 : kept ≤ tot + 1) : 1 ≤ TG fo so sl tot rule taken lost kept ∧ TG fo so sl tot rule taken lost kept ≤ 433 := by
  have h1 : Int.tdiv (tot * (so - taken)) so ≤ tot := tdiv_le (by omega) (Int.mul_le_mul_of_nonneg_left (by omega) ht0) ht0
  have h2 : Int.tdiv (tot * (1000 - lost)) 1000 ≤ tot := tdiv_le (by decide) (Int.mul_le_mul_of_nonneg_left (by omega) ht0) ht0
  have h3 := woN_bd hfo taken so so.toNat
  have h4 : 0 ≤ sl * taken := Int.mul_nonneg hl ha0
  unfold TG al1
  split
  · split <;> omega
  · split
    · split <;> omega
    · split
      · split <;> omega
      · split
        · split <;> omega
        · omega
def LD (cs mp : Int → Int) (mo mm la : Int) (me wi : Int → Int) : Prop := (la = 0 ∨ la = 1) ∧ (la = 1 → Tab cs mp mo mm me wi)
