/-! part:mstays -/
/-! ===== what every call keeps ===== -/
def invZ (S : St) : Prop := invX S ∧ zrG S.1 ∧ zrG S.2.1
theorem inv_no {k : Int} {S : St} (h : invZ S) : invZ (no k S).2 := by
  obtain ⟨N, K, ik, ls, lz, tl, tz, rf⟩ := S
  obtain ⟨⟨hN, hK, hn9, hk9, hl1, hl2, hl3, ht1, ht2, ht3, hr1, hik⟩, z1, z2⟩ := h
  exact ⟨⟨hN, hK, hn9, hk9, hl1, hl2, hl3, ht1, ht2, ht3, len_s.trans hr1, hik⟩, z1, z2⟩
theorem inv_lno {k : Int} {S : St} (h : invZ S) : invZ (lno k S).2 := inv_no (k := k) h
theorem inv_now {S : St} {G : Gal} (h : invZ S) (hG : invG G) (hm : gMi G ≤ 999) (hz : zrG G) : invZ (G, S.2) := by
  obtain ⟨N, K, ik, ls, lz, tl, tz, rf⟩ := S
  obtain ⟨⟨hN, hK, hn9, hk9, hl1, hl2, hl3, ht1, ht2, ht3, hr1, hik⟩, z1, z2⟩ := h
  exact ⟨⟨hG, hK, hm, hk9, hl1, hl2, hl3, ht1, ht2, ht3, hr1, hik⟩, hz, z2⟩
theorem comeL_in {vs : List Int} {sz : Int} (hz : 0 ≤ sz ∧ sz ≤ 96) (hv : vs.length = 96) (hb : bnd 0 255 vs) : ∀ (k : Nat) (a n : Int) (G : Gal), 0 ≤ a → invG G → zrG G → gMi G ≤ 999 → a ≤ 96 → brokF vs sz k a = -9 → wrongF vs sz k a (gPc G) (gMi G) = -9 → invG (comeL vs sz k a n G).2 ∧ zrG (comeL vs sz k a n G).2 ∧ gMi (comeL vs sz k a n G).2 ≤ 999
  | 0, a, n, G, _, h1, h2, h3, _, _, _ => ⟨h1, h2, h3⟩
  | k + 1, a, n, G, h0, h1, h2, h3, h9, h4, h5 => by
    by_cases e : sz ≤ a
    · rw [come_out _ e]
      exact ⟨h1, h2, h3⟩
    · obtain ⟨d1, d2, d3⟩ := brok_st h0 e h4
      obtain ⟨e1, e2⟩ := wrong_st h0 e h5
      obtain ⟨w1, w2, w3⟩ := comeG_in hz hv hb h1 ⟨h0, by omega⟩ d1 e1
      have w4 := zrG_come hz hv hb h1 h2 d1 e1
      have b1 := szK_in (atN vs sz a)
      have hend := fine_end d1 d2
      have hm : gMi (comeG vs sz a G) ≤ 999 := by
        rw [w3]
        have hx : atN vs sz a = 109 → gMi G + twN vs sz (a + 1) ≤ 999 := fun z => by
          rcases e1 with q | q | q | q | q | q <;> omega
        split
        · next q => exact hx q
        · omega
      rw [← w2, ← w3] at e2
      have ih := comeL_in hz hv hb k (a + szK (atN vs sz a)) (n + 1) (comeG vs sz a G) (by omega) w1 w4 hm (by omega) d3 e2
      have ec : comeL vs sz (k + 1) a n G = comeL vs sz k (a + szK (atN vs sz a)) (n + 1) (comeG vs sz a G) := by
        conv => lhs; unfold comeL
        rw [if_neg e]
      rw [ec]
      exact ih
theorem mineG_in {vs : List Int} {sz : Int} {G : Gal} (hz : 0 ≤ sz ∧ sz ≤ 96) (hv : vs.length = 96) (hb : bnd 0 255 vs) (h1 : invG G) (h2 : zrG G) (h3 : gMi G ≤ 999) : invG (mineG vs sz G).2 ∧ zrG (mineG vs sz G).2 ∧ gMi (mineG vs sz G).2 ≤ 999 := by
  unfold mineG
  split
  · exact ⟨h1, h2, h3⟩
  · next c1 =>
    split
    · exact ⟨h1, h2, h3⟩
    · next c2 =>
      have c3 : brokK vs sz = -9 := Classical.byContradiction c1
      have c4 : wrongF vs sz 97 0 (gPc G) (gMi G) = -9 := Classical.byContradiction c2
      have c5 : brokF vs sz 97 0 = -9 := by
        unfold brokK at c3
        split at c3
        · omega
        · exact c3
      exact comeL_in hz hv hb 97 0 0 G (by omega) h1 h2 h3 (by omega) c5 c4
theorem inv_mine {S : St} (h : invZ S) : invZ (r_mine S).2 := by
  obtain ⟨N, K, ik, ls, lz, tl, tz, rf⟩ := S
  obtain ⟨⟨hN, hK, hn9, hk9, hl1, hl2, hl3, ht1, ht2, ht3, hr1, hik⟩, z1, z2⟩ := h
  obtain ⟨w1, w2, w3⟩ := mineG_in (G := N) hl3 hl1 hl2 hN z1 hn9
  exact ⟨⟨w1, hK, w3, hk9, hl1, hl2, ⟨by show (0 : Int) ≤ 0; omega, by show (0 : Int) ≤ 96; omega⟩, ht1, ht2, ht3, hr1, hik⟩, w2, z2⟩
theorem inv_letter {c : Int} {S : St} (h : invZ S) : invZ (r_letter c S).2 := by
  unfold r_letter
  split
  · exact inv_no h
  · split
    · exact inv_no h
    · next c1 c2 =>
      obtain ⟨N, K, ik, ls, lz, tl, tz, rf⟩ := S
      obtain ⟨⟨hN, hK, hn9, hk9, hl1, hl2, hl3, ht1, ht2, ht3, hr1, hik⟩, z1, z2⟩ := h
      have c2 : ¬ (255 < c ∨ 96 ≤ lz) := c2
      have hl3 : 0 ≤ lz ∧ lz ≤ 96 := hl3
      exact ⟨⟨hN, hK, hn9, hk9, len_s.trans hl1, bnd_s hl2 (by omega), ⟨by show 0 ≤ lz + 1; omega, by show lz + 1 ≤ 96; omega⟩, ht1, ht2, ht3, hr1, hik⟩, z1, z2⟩
theorem inv_row {v : Int} {S : St} (h : invZ S) : invZ (r_row v S).2 := by
  unfold r_row
  split
  · exact inv_no h
  · split
    · exact inv_no h
    · next c1 c2 =>
      obtain ⟨N, K, ik, ls, lz, tl, tz, rf⟩ := S
      obtain ⟨⟨hN, hK, hn9, hk9, hl1, hl2, hl3, ht1, ht2, ht3, hr1, hik⟩, z1, z2⟩ := h
      have c2 : ¬ (99 < v ∨ 16 ≤ tz) := c2
      have ht3 : 0 ≤ tz ∧ tz ≤ 16 := ht3
      exact ⟨⟨hN, hK, hn9, hk9, hl1, hl2, hl3, len_s.trans ht1, bnd_s ht2 (by omega), ⟨by show 0 ≤ tz + 1; omega, by show tz + 1 ≤ 16; omega⟩, hr1, hik⟩, z1, z2⟩
theorem inv_judge {S : St} (h : invZ S) : invZ (r_judge S).2 := by
  obtain ⟨N, K, ik, ls, lz, tl, tz, rf⟩ := S
  obtain ⟨⟨hN, hK, hn9, hk9, hl1, hl2, hl3, ht1, ht2, ht3, hr1, hik⟩, z1, z2⟩ := h
  exact ⟨⟨hN, hK, hn9, hk9, hl1, hl2, hl3, ht1, ht2, ⟨by show (0 : Int) ≤ 0; omega, by show (0 : Int) ≤ 16; omega⟩, hr1, hik⟩, z1, z2⟩
theorem inv_clear {S : St} (h : invZ S) : invZ (r_clear S).2 := inv_judge h
theorem inv_image {S : St} (h : invZ S) : invZ (r_image S).2 := by
  obtain ⟨N, K, ik, ls, lz, tl, tz, rf⟩ := S
  obtain ⟨⟨hN, hK, hn9, hk9, hl1, hl2, hl3, ht1, ht2, ht3, hr1, hik⟩, z1, z2⟩ := h
  exact ⟨⟨hN, hN, hn9, hn9, hl1, hl2, hl3, ht1, ht2, ht3, hr1, Or.inr rfl⟩, z1, z1⟩
theorem inv_on {S : St} (h : invZ S) : invZ (r_on S).2 := by
  unfold r_on
  split
  · exact inv_no h
  · exact inv_now h h.1.2.1 h.1.2.2.2.1 h.2.2
theorem inv_props {c v : Int} {S : St} (h : invZ S) : invZ (r_props c v S).2 := by
  unfold r_props
  split
  · exact inv_no h
  · split
    · exact inv_no h
    · split
      · exact inv_no h
      · next c1 c2 c3 =>
        refine inv_now h ?_ h.1.2.2.1 h.2.1
        have hN := h.1.1
        obtain ⟨i1, i2, i3, i4, i5, i6, i7, i8, i9, i10, i11, i12, i13, i14, i15⟩ := hN
        exact ⟨len_s.trans i1, i2, i3, i4, i5, i6, bnd_s i7 (by omega), i8, i9, i10, i11, i12, i13, i14, i15⟩
theorem inv_stands {p c : Int} {S : St} (h : invZ S) : invZ (r_stands p c S).2 := by
  unfold r_stands
  split
  · exact inv_no h
  · split
    · exact inv_no h
    · next c1 c2 => exact inv_now h (invG_cell h.1.1 (by omega)) h.1.2.2.1 (zrG_cell h.2.1 (by omega))
theorem inv_adds {p v : Int} {S : St} (h : invZ S) : invZ (r_adds p v S).2 := by
  unfold r_adds
  split
  · exact inv_no h
  · split
    · exact inv_no h
    · split
      · exact inv_no h
      · next c1 c2 c3 => exact inv_now h (invG_say h.1.1) h.1.2.2.1 (zrG_say h.2.1 (by omega))
theorem inv_swaps {a b : Int} {S : St} (h : invZ S) : invZ (r_swaps a b S).2 := by
  have h4 : gPc S.1 ≤ 4 := h.1.1.2.2.2.2.2.2.2.2.2.2.2.2.2.1
  unfold r_swaps
  split
  · exact inv_no h
  · split
    · exact inv_no h
    · split
      · exact inv_no h
      · next c1 c2 c3 => exact inv_now h (invG_chg h.1.1 (by omega) (by omega)) h.1.2.2.1 (zrG_chg h.2.1 (by omega) (by omega))
theorem inv_turn {m k f : Int} {S : St} (h : invZ S) : invZ (r_turn m k f S).2 := by
  unfold r_turn
  repeat' split
  all_goals first
    | exact inv_no h
    | skip
  next c1 c2 c3 c4 c5 =>
    refine inv_now h ?_ h.1.2.2.1 h.2.1
    have hN := h.1.1
    obtain ⟨i1, i2, i3, i4, i5, i6, i7, i8, i9, i10, i11, i12, i13, i14, i15⟩ := hN
    exact ⟨i1, i2, i3, len_s.trans i4, len_s.trans i5, i6, i7, i8, i9, bnd_s i10 (by omega), bnd_s i11 (by omega), i12, i13, i14, i15⟩
theorem inv_minutes {n : Int} {S : St} (h : invZ S) : invZ (r_minutes n S).2 := by
  unfold r_minutes
  split
  · exact inv_no h
  · split
    · exact inv_no h
    · split
      · exact inv_no h
      · next c1 c2 c3 =>
        obtain ⟨w1, w2, w3⟩ := invG_pass n.toNat h.1.1
        exact inv_now h w1 (by rw [w3]; omega) (zrG_pass _ h.1.1 h.2.1)

theorem inv_miner {m w : Int} {S : St} (h : invZ S) : invZ (r_miner m w S).2 := by
  unfold r_miner
  repeat' split
  all_goals first
    | exact h
    | exact inv_no h
    | exact inv_lno h
theorem inv_pair {p w : Int} {S : St} (h : invZ S) : invZ (r_pair p w S).2 := by
  unfold r_pair
  repeat' split
  all_goals first
    | exact h
    | exact inv_no h
    | exact inv_lno h
theorem inv_beams {c : Int} {S : St} (h : invZ S) : invZ (r_beams c S).2 := by
  unfold r_beams
  repeat' split
  all_goals first
    | exact h
    | exact inv_no h
    | exact inv_lno h
theorem inv_pairThen {p n w : Int} {S : St} (h : invZ S) : invZ (r_pairThen p n w S).2 := by
  unfold r_pairThen
  repeat' split
  all_goals first
    | exact h
    | exact inv_no h
    | exact inv_lno h
theorem inv_bruisesThen {m n : Int} {S : St} (h : invZ S) : invZ (r_bruisesThen m n S).2 := by
  unfold r_bruisesThen
  repeat' split
  all_goals first
    | exact h
    | exact inv_no h
    | exact inv_lno h
theorem inv_faced {p : Int} {S : St} (h : invZ S) : invZ (r_faced p S).2 := by
  unfold r_faced
  repeat' split
  all_goals first
    | exact h
    | exact inv_no h
    | exact inv_lno h
theorem inv_done {p : Int} {S : St} (h : invZ S) : invZ (r_done p S).2 := by
  unfold r_done
  repeat' split
  all_goals first
    | exact h
    | exact inv_no h
    | exact inv_lno h
theorem inv_hurt {m v : Int} {S : St} (h : invZ S) : invZ (r_hurt m v S).2 := by
  unfold r_hurt
  repeat' split
  all_goals first
    | exact h
    | exact inv_no h
    | exact inv_lno h
theorem inv_begins {p : Int} {S : St} (h : invZ S) : invZ (r_begins p S).2 := by
  unfold r_begins
  repeat' split
  all_goals first
    | exact h
    | exact inv_no h
    | exact inv_lno h
theorem inv_clears {n : Int} {S : St} (h : invZ S) : invZ (r_clears n S).2 := by
  unfold r_clears
  repeat' split
  all_goals first
    | exact h
    | exact inv_no h
    | exact inv_lno h
theorem inv_change {S : St} (h : invZ S) : invZ (r_change S).2 := by
  unfold r_change
  repeat' split
  all_goals first
    | exact h
    | exact inv_no h
    | exact inv_lno h
theorem inv_bestKind {m w : Int} {S : St} (h : invZ S) : invZ (r_bestKind m w S).2 := by
  unfold r_bestKind
  repeat' split
  all_goals first
    | exact h
    | exact inv_no h
    | exact inv_lno h
theorem inv_bestCell {p w : Int} {S : St} (h : invZ S) : invZ (r_bestCell p w S).2 := by
  unfold r_bestCell
  repeat' split
  all_goals first
    | exact h
    | exact inv_no h
    | exact inv_lno h
theorem inv_hum {p n : Int} {S : St} (h : invZ S) : invZ (r_hum p n S).2 := by
  unfold r_hum
  repeat' split
  all_goals first
    | exact h
    | exact inv_no h
    | exact inv_lno h
theorem inv_first {w : Int} {S : St} (h : invZ S) : invZ (r_first w S).2 := by
  unfold r_first
  repeat' split
  all_goals first
    | exact h
    | exact inv_no h
    | exact inv_lno h
theorem inv_timber {w : Int} {S : St} (h : invZ S) : invZ (r_timber w S).2 := by
  unfold r_timber
  repeat' split
  all_goals first
    | exact h
    | exact inv_no h
    | exact inv_lno h
theorem inv_eager {S : St} (h : invZ S) : invZ (r_eager S).2 := by
  unfold r_eager
  repeat' split
  all_goals first
    | exact h
    | exact inv_no h
    | exact inv_lno h
theorem inv_two {p n : Int} {S : St} (h : invZ S) : invZ (r_two p n S).2 := by
  unfold r_two
  repeat' split
  all_goals first
    | exact h
    | exact inv_no h
    | exact inv_lno h
theorem inv_cough {p n t v w : Int} {S : St} (h : invZ S) : invZ (r_cough p n t v w S).2 := by
  unfold r_cough
  repeat' split
  all_goals first
    | exact h
    | exact inv_no h
    | exact inv_lno h
theorem inv_mean {w : Int} {S : St} (h : invZ S) : invZ (r_mean w S).2 := by
  unfold r_mean
  repeat' split
  all_goals first
    | exact h
    | exact inv_no h
    | exact inv_lno h
theorem inv_whatIs {m w : Int} {S : St} (h : invZ S) : invZ (r_whatIs m w S).2 := by
  unfold r_whatIs
  repeat' split
  all_goals first
    | exact h
    | exact inv_no h
    | exact inv_lno h
theorem inv_lots {n z w : Int} {S : St} (h : invZ S) : invZ (r_lots n z w S).2 := by
  unfold r_lots
  repeat' split
  all_goals first
    | exact h
    | exact inv_no h
    | exact inv_lno h
theorem inv_count {w : Int} {S : St} (h : invZ S) : invZ (r_count w S).2 := by
  unfold r_count
  repeat' split
  all_goals first
    | exact h
    | exact inv_no h
    | exact inv_lno h
