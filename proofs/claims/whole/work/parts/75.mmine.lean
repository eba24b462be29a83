/-! part:mmine -/
/-! ===== beyond the pairs there is nothing; the reference's mine ===== -/
theorem zrG_walk {G : Gal} (hG : invG G) (hz : zrG G) {p sp : Int} (hp : 0 ≤ p ∧ p < gPc G) (hs : sp = 0 ∨ sp = 1 ∨ sp = -9) : zrG (walkG G p sp) := by
  obtain ⟨be, ce, ts, ki, fi, br, pc, mi⟩ := G
  have h0 : 0 ≤ pc := hG.2.2.2.2.2.2.2.2.2.2.2.2.1
  unfold zrG at hz ⊢
  simp only [gPc] at hp
  unfold walkG
  by_cases c : 19 ≤ gI (gCe (be, ce, ts, ki, fi, br, pc, mi)) p
  · rw [if_pos c]
    exact hz
  · rw [if_neg c]
    by_cases d : sp = -9
    · rw [if_pos d]
      intro i
      refine ⟨fun i0 i1 => ?_, fun i0 i1 => (hz i).2 i0 i1⟩
      have i0 : pc ≤ i := i0
      refine ⟨?_, ((hz i).1 i0 i1).2⟩
      show gI (sI ce p _) i = 0
      rw [gI_n hp.1 (by omega) (by omega)]
      exact ((hz i).1 i0 i1).1
    · rw [if_neg d]
      intro i
      refine ⟨fun i0 i1 => ?_, fun i0 i1 => ?_⟩
      · have i0 : pc ≤ i := i0
        refine ⟨?_, ?_⟩
        · show gI (sI ce p _) i = 0
          rw [gI_n hp.1 (by omega) (by omega)]
          exact ((hz i).1 i0 i1).1
        · show gI (sI ts p _) i = 0
          rw [gI_n hp.1 (by omega) (by omega)]
          exact ((hz i).1 i0 i1).2
      · have i0 : 2 * pc ≤ i := i0
        show gI (sI br (2 * p + sp) _) i = 0
        rw [gI_n (by omega) (by omega) (by omega)]
        exact (hz i).2 i0 i1
theorem zrG_pairs : ∀ (k : Nat) (p : Int) (G : Gal), invG G → zrG G → 0 ≤ p → p + k ≤ gPc G → zrG (loopF (fun p G => walkG G p (speakG G p (gMi G))) k p G)
  | 0, p, G, _, h, _, _ => h
  | k + 1, p, G, hG, h, h0, h1 => by
    have h4 : gPc G ≤ 4 := hG.2.2.2.2.2.2.2.2.2.2.2.2.2.1
    obtain ⟨a1, a2, a3⟩ := invG_walk hG (p := p) (sp := speakG G p (gMi G)) (by omega) (speakG_in _ _ _)
    exact zrG_pairs k (p + 1) (walkG G p (speakG G p (gMi G))) a1 (zrG_walk hG h ⟨h0, by omega⟩ (speakG_in _ _ _)) (by omega) (by rw [a2]; omega)
theorem zrG_min {G : Gal} (hG : invG G) (h : zrG G) : zrG (minG G) := by
  obtain ⟨be, ce, ts, ki, fi, br, pc, mi⟩ := G
  have h0 : 0 ≤ pc := hG.2.2.2.2.2.2.2.2.2.2.2.2.1
  have h1 : 0 ≤ mi := hG.2.2.2.2.2.2.2.2.2.2.2.2.2.2
  have h2 : invG (be, ce, ts, ki, fi, br, pc, mi + 1) := by
    obtain ⟨a1, a2, a3, a4, a5, a6, a7, a8, a9, a10, a11, a12, a13, a14, a15⟩ := hG
    exact ⟨a1, a2, a3, a4, a5, a6, a7, a8, a9, a10, a11, a12, a13, a14, by show 0 ≤ mi + 1; omega⟩
  have h3 : zrG (be, ce, ts, ki, fi, br, pc, mi + 1) := h
  exact zrG_pairs pc.toNat 0 (be, ce, ts, ki, fi, br, pc, mi + 1) h2 h3 (by omega) (by show 0 + (pc.toNat : Int) ≤ pc; omega)
theorem zrG_loop : ∀ (n : Nat) (i : Int) (G : Gal), invG G → zrG G → zrG (loopF (fun _ G => minG G) n i G)
  | 0, _, G, _, h => h
  | n + 1, i, G, hG, h => zrG_loop n (i + 1) _ (invG_min hG).1 (zrG_min hG h)
theorem zrG_pass {G : Gal} (n : Nat) (hG : invG G) (h : zrG G) : zrG (passG n G) := zrG_loop n 0 G hG h
theorem zrG_cell {G : Gal} {p c : Int} (h : zrG G) (hp : 0 ≤ p ∧ p < gPc G) : zrG (cellG G p c) := by
  unfold zrG at h ⊢
  intro i
  refine ⟨fun i0 i1 => ?_, fun i0 i1 => (h i).2 i0 i1⟩
  have i0 : gPc G ≤ i := i0
  refine ⟨?_, ((h i).1 i0 i1).2⟩
  show gI (sI (gCe G) p _) i = 0
  rw [gI_n hp.1 (by omega) (by omega)]
  exact ((h i).1 i0 i1).1
theorem zrG_say {G : Gal} {p v : Int} (h : zrG G) (hp : 0 ≤ p ∧ p < gPc G) : zrG (sayG G p v) := by
  unfold zrG at h ⊢
  intro i
  refine ⟨fun i0 i1 => ?_, fun i0 i1 => (h i).2 i0 i1⟩
  have i0 : gPc G ≤ i := i0
  refine ⟨((h i).1 i0 i1).1, ?_⟩
  show gI (sI (gTs G) p _) i = 0
  rw [gI_n hp.1 (by omega) (by omega)]
  exact ((h i).1 i0 i1).2
theorem zrG_chg {G : Gal} {a b : Int} (h : zrG G) (ha : 0 ≤ a ∧ a < 2 * gPc G) (hb : 0 ≤ b ∧ b < 2 * gPc G) : zrG (chgG G a b) := by
  unfold zrG at h ⊢
  intro i
  refine ⟨fun i0 i1 => (h i).1 i0 i1, fun i0 i1 => ?_⟩
  have i0 : 2 * gPc G ≤ i := i0
  show gI (sI (sI (gBr G) a _) b _) i = 0
  rw [gI_n hb.1 (by omega) (by omega), gI_n ha.1 (by omega) (by omega)]
  exact (h i).2 i0 i1
theorem zrG_come {vs : List Int} {sz a : Int} {G : Gal} (hz : 0 ≤ sz ∧ sz ≤ 96) (hv : vs.length = 96) (hb : bnd 0 255 vs) (hG : invG G) (hzr : zrG G) (hf : fineP vs sz a) (hr : rightP vs sz a (gPc G) (gMi G)) : zrG (comeG vs sz a G) := by
  have c1 : dgN vs sz (a + 1) = atN vs sz (a + 1) - 48 := rfl
  have c2 : dgN vs sz (a + 2) = atN vs sz (a + 2) - 48 := rfl
  unfold comeG
  by_cases q1 : atN vs sz a = 97
  · have f := fine_a hf (Or.inl q1)
    rw [if_pos q1]
    refine zrG_cell hzr ⟨by omega, ?_⟩
    rcases hr with r | r | r | r | r | r <;> omega
  rw [if_neg q1]
  by_cases q2 : atN vs sz a = 98
  · rw [if_pos q2]
    exact hzr
  rw [if_neg q2]
  by_cases q3 : atN vs sz a = 109
  · rw [if_pos q3]
    exact zrG_pass _ hG hzr
  rw [if_neg q3]
  by_cases q4 : atN vs sz a = 112
  · rw [if_pos q4]
    unfold zrG at hzr ⊢
    intro i
    refine ⟨fun i0 i1 => ?_, fun i0 i1 => ?_⟩
    · have i0 : gPc G + 1 ≤ i := i0
      exact (hzr i).1 (by omega) i1
    · have i0 : 2 * (gPc G + 1) ≤ i := i0
      exact (hzr i).2 (by omega) i1
  rw [if_neg q4]
  by_cases q5 : atN vs sz a = 116
  · have f := fine_a hf (Or.inr (Or.inr q5))
    rw [if_pos q5]
    refine zrG_say hzr ⟨by omega, ?_⟩
    rcases hr with r | r | r | r | r | r <;> omega
  rw [if_neg q5]
  by_cases q6 : atN vs sz a = 120
  · have f := fine_m hf (Or.inr q6)
    rw [if_pos q6]
    refine zrG_chg hzr ⟨by omega, ?_⟩ ⟨by omega, ?_⟩
    · rcases hr with r | r | r | r | r | r <;> omega
    · rcases hr with r | r | r | r | r | r <;> omega
  · rw [if_neg q6]
    exact hzr
def posF (vs : List Int) (sz : Int) : Nat → Int
  | 0 => 0
  | k + 1 => posF vs sz k + szK (atN vs sz (posF vs sz k))
/-- what the reference has read: the statements ahead of st -/
def parP (vs : List Int) (sz : Int) (le la td : List Int) (st : Nat) : Prop := ∀ j : Nat, j < st → gI le (j : Int) = atN vs sz (posF vs sz j) ∧ gI la (j : Int) = posF vs sz j ∧ ¬ szK (atN vs sz (posF vs sz j)) < 1 ∧ fineP vs sz (posF vs sz j) ∧ toldP vs sz td (4 * (j : Int)) (posF vs sz j) ∧ 4 * (j : Int) ≤ posF vs sz j ∧ posF vs sz j < sz
theorem atN_lt {vs : List Int} {sz i : Int} (h : ¬ atN vs sz i = -1) : i < sz := by
  unfold atN at h
  split at h
  · omega
  · exact absurd rfl h
theorem fine_end {vs : List Int} {sz a : Int} (h : fineP vs sz a) (hs : ¬ szK (atN vs sz a) < 1) : a + szK (atN vs sz a) ≤ sz := by
  have b1 := szK_in (atN vs sz a)
  have f := h (szK (atN vs sz a) - 1) (by omega) (by omega)
  have e : atN vs sz (a + (szK (atN vs sz a) - 1)) = 59 := by
    rcases f with f | f | f
    · exact f.2
    · exact absurd rfl f.1
    · exact absurd rfl f.1
  have := atN_lt (vs := vs) (sz := sz) (i := a + (szK (atN vs sz a) - 1)) (by omega)
  omega
theorem par_pos {vs : List Int} {sz : Int} {le la td : List Int} : ∀ (st : Nat), parP vs sz le la td st → 0 ≤ sz → 4 * (st : Int) ≤ posF vs sz st ∧ posF vs sz st ≤ sz
  | 0, _, h => ⟨by show 4 * ((0 : Nat) : Int) ≤ 0; omega, h⟩
  | st + 1, h, h0 => by
    obtain ⟨p1, p2, p3, p4, p5, p6, p7⟩ := h st (by omega)
    have b1 := szK_in (atN vs sz (posF vs sz st))
    have := fine_end p4 p3
    refine ⟨?_, this⟩
    show 4 * ((st + 1 : Nat) : Int) ≤ posF vs sz st + szK (atN vs sz (posF vs sz st))
    omega
theorem told_keep {vs : List Int} {sz : Int} {td tq : List Int} {p a : Int} (hp : 0 ≤ p) (h : toldP vs sz td p a) (e : ∀ i, 0 ≤ i → i < p + 4 → gI tq i = gI td i) : toldP vs sz tq p a := by
  unfold toldP at h ⊢
  rw [e p hp (by omega), e (p + 1) (by omega) (by omega), e (p + 2) (by omega) (by omega), e (p + 2 + 1) (by omega) (by omega)]
  exact h
theorem par_st {vs : List Int} {sz : Int} {le la td tq : List Int} {st : Nat} (h : parP vs sz le la td st) (h0 : 0 ≤ sz) (hs : (st : Int) < 48) (hl1 : le.length = 48) (hl2 : la.length = 48) (h1 : ¬ szK (atN vs sz (posF vs sz st)) < 1) (h2 : fineP vs sz (posF vs sz st)) (h3 : toldP vs sz tq (4 * (st : Int)) (posF vs sz st)) (h4 : posF vs sz st < sz) (e : ∀ i, 0 ≤ i → i < 4 * (st : Int) → gI tq i = gI td i) : parP vs sz (sI le (st : Int) (atN vs sz (posF vs sz st))) (sI la (st : Int) (posF vs sz st)) tq (st + 1) := by
  intro j hj
  have hq := (par_pos st h h0).1
  by_cases q : j = st
  · subst q
    exact ⟨gI_s (by omega) (by omega), gI_s (by omega) (by omega), h1, h2, h3, hq, h4⟩
  · obtain ⟨p1, p2, p3, p4, p5, p6, p7⟩ := h j (by omega)
    exact ⟨by rw [gI_n (by omega) (by omega) (by omega)]; exact p1, by rw [gI_n (by omega) (by omega) (by omega)]; exact p2, p3, p4, told_keep (by omega) p5 (fun i i0 i1 => e i i0 (by omega)), p6, p7⟩
theorem stm_fine {vs : List Int} {sz a : Int} (h : stmF vs sz a = -9) : fineP vs sz a := fun i hi hj => fit_all _ 1 (by omega) h i hi (by omega)
theorem brok_no {vs : List Int} {sz a : Int} {k : Nat} (h : ¬ sz ≤ a) (h1 : szK (atN vs sz a) < 1) : brokF vs sz (k + 1) a = a := by
  unfold brokF
  rw [if_neg h, if_pos h1]
theorem brok_at {vs : List Int} {sz a : Int} {k : Nat} (h : ¬ sz ≤ a) (h1 : ¬ szK (atN vs sz a) < 1) (h2 : ¬ stmF vs sz a = -9) : brokF vs sz (k + 1) a = a + stmF vs sz a := by
  unfold brokF
  rw [if_neg h, if_neg h1, if_neg (by exact h2)]
  rfl
theorem brok_go {vs : List Int} {sz a : Int} {k : Nat} (h : ¬ sz ≤ a) (h1 : ¬ szK (atN vs sz a) < 1) (h2 : stmF vs sz a = -9) : brokF vs sz (k + 1) a = brokF vs sz k (a + szK (atN vs sz a)) := by
  conv => lhs; unfold brokF
  rw [if_neg h, if_neg h1, if_pos (by exact h2)]
theorem brok_out {vs : List Int} {sz a : Int} (k : Nat) (h : sz ≤ a) : brokF vs sz k a = -9 := by
  cases k with
  | zero => rfl
  | succ k =>
    unfold brokF
    rw [if_pos h]
theorem wrong_out {vs : List Int} {sz a p m : Int} (k : Nat) (h : sz ≤ a) : wrongF vs sz k a p m = -9 := by
  cases k with
  | zero => rfl
  | succ k =>
    unfold wrongF
    rw [if_pos h]
theorem come_out {vs : List Int} {sz a n : Int} {G : Gal} (k : Nat) (h : sz ≤ a) : comeL vs sz k a n G = (n, G) := by
  cases k with
  | zero => rfl
  | succ k =>
    unfold comeL
    rw [if_pos h]
