/-! part:mpureb -/
/-! ===== two, coughs, bits: the same numbers on both sides ===== -/
def setM (B : Gal) (m : Int) : Gal := (B.1, B.2.1, B.2.2.1, B.2.2.2.1, B.2.2.2.2.1, B.2.2.2.2.2.1, B.2.2.2.2.2.2.1, m)
theorem setM_walk {B : Gal} {p sp m : Int} : walkG (setM B m) p sp = setM (walkG B p sp) m := by
  unfold walkG
  by_cases c : 19 ≤ gI (gCe B) p
  · rw [if_pos c, if_pos (by exact c)]
  · rw [if_neg c, if_neg (by exact c)]
    split <;> rfl
theorem setM_tick {B : Gal} {m : Int} : tick (setM B m) = setM B (m + 1) := rfl
theorem setM_self {B : Gal} : setM B (gMi B) = B := rfl
theorem invG_setM {B : Gal} {m : Int} (h : invG B) (hm : 0 ≤ m) : invG (setM B m) := by
  obtain ⟨a1, a2, a3, a4, a5, a6, a7, a8, a9, a10, a11, a12, a13, a14, a15⟩ := h
  exact ⟨a1, a2, a3, a4, a5, a6, a7, a8, a9, a10, a11, a12, a13, a14, hm⟩
theorem setM_speak {B : Gal} {p m t : Int} : speakG (setM B m) p t = speakG B p t := rfl
/-- one minute of the reference, with any will, is one way of the pair -/
theorem agr_step {co wi wg p sp : Int} {A B : Gal} (hA : invG A) (hB : invG B) (hp : 0 ≤ p ∧ p < gPc A) (h : agr p A (setM B (gMi A))) (hs : ¬ 19 ≤ gI (gCe B) p → mSp co wi wg (setM B (gMi A + 1)) p (gMi A + 1) = sp) : agr p (mMin co wi wg A) (setM (walkG B p sp) (gMi (mMin co wi wg A))) := by
  have hm : 0 ≤ gMi A := hA.2.2.2.2.2.2.2.2.2.2.2.2.2.2
  have h1 := agr_min (co := co) (wi := wi) (wg := wg) hA (invG_setM hB hm) hp h
  rw [setM_tick] at h1
  rw [(mMin_in hA).2.2]
  unfold mGo at h1
  have e : gMi (setM B (gMi A + 1)) = gMi A + 1 := rfl
  rw [e, setM_walk] at h1
  by_cases c : 19 ≤ gI (gCe B) p
  · have e1 : ∀ s, walkG B p s = B := fun s => by unfold walkG; rw [if_pos c]
    rw [e1] at h1 ⊢
    exact h1
  · rw [hs c] at h1
    exact h1
theorem will_sp {k p t : Int} {B : Gal} (hk : 0 ≤ k ∧ k < 4) (hc : ¬ gI (gCe B) p = 19) : mSp 0 (4 + k) p B p t = spI (k / 2) (k % 2) := by
  have e1 : 2 * p / 2 = p := by omega
  have e2 : (2 * p + 1) / 2 = p := by omega
  have e3 : 2 * p % 2 = 0 := by omega
  have e4 : (2 * p + 1) % 2 = 1 := by omega
  have e5 : (0 : Int) < 4 + k ∧ True := ⟨by omega, trivial⟩
  unfold mSp mW spI
  rw [if_neg hc]
  simp only [e1, e2, e3, e4, e5, (by decide : ¬ (0 : Int) = 1), if_false, and_true, if_true]
  rcases (by omega : k = 0 ∨ k = 1 ∨ k = 2 ∨ k = 3) with rfl | rfl | rfl | rfl <;> decide +kernel
theorem two_agr {k p : Int} (hk : 0 ≤ k ∧ k < 4) : ∀ (n : Nat) (i j : Int) (A B : Gal), invG A → invG B → 0 ≤ p → p < gPc A → gPc A ≤ 4 → agr p A (setM B (gMi A)) → agr p (loopF (fun _ G => mMin 0 (4 + k) p G) n i A) (setM (walksG p (spI (k / 2) (k % 2)) n j B) (gMi (loopF (fun _ G => mMin 0 (4 + k) p G) n i A)))
  | 0, _, _, A, B, hA, hB, h0, h1, h4, h => h
  | n + 1, i, j, A, B, hA, hB, h0, h1, h4, h => by
    have hb1 : (gCe B).length = 4 := hB.2.1
    have hb := bnd_g hB.2.2.2.2.2.2.2.1 (i := p) h0 (by omega)
    have w := mMin_in (co := 0) (wi := 4 + k) (wg := p) hA
    exact two_agr hk n (i + 1) (j + 1) (mMin 0 (4 + k) p A) (walkG B p (spI (k / 2) (k % 2))) w.1 (invG_walk hB ⟨h0, by omega⟩ (spI_in _ _)).1 h0 (by rw [w.2.1]; exact h1) (by rw [w.2.1]; exact h4)
      (agr_step hA hB ⟨h0, h1⟩ h (fun c => will_sp hk (by show ¬ gI (gCe B) p = 19; omega)))
theorem two_eq {k p q : Int} {G : Gal} {n : Nat} (hG : invG G) (hk : 0 ≤ k ∧ k < 4) (hp : 0 ≤ p ∧ p < gPc G) (hq : q = 0 ∨ q = 1) : prW p q (mPass 0 (4 + k) p n G) = priceG G p n (k / 2) (k % 2) q := by
  have h4 : gPc G ≤ 4 := hG.2.2.2.2.2.2.2.2.2.2.2.2.2.1
  have h := two_agr hk n 0 0 G G hG hG hp.1 hp.2 h4 agr_rfl
  obtain ⟨h1, h2, h3, h4, h5, h6, h7, h8, h9, h10⟩ := h
  unfold priceG prW
  have e3 : gI (gTs (mPass 0 (4 + k) p n G)) p = gI (gTs (walksG p (spI (k / 2) (k % 2)) n 0 G)) p := h3
  rw [e3]
  rcases hq with rfl | rfl
  · rw [Int.add_zero]
    have e8 : gI (gBr (mPass 0 (4 + k) p n G)) (2 * p) = gI (gBr (walksG p (spI (k / 2) (k % 2)) n 0 G)) (2 * p) := h8
    rw [e8]
  · have e9 : gI (gBr (mPass 0 (4 + k) p n G)) (2 * p + 1) = gI (gBr (walksG p (spI (k / 2) (k % 2)) n 0 G)) (2 * p + 1) := h9
    rw [e9]
def bitI (s i : Int) : Int := if andI (shrI s i) 1 = 1 then 1 else 0
theorem bitI_in (s i : Int) : bitI s i = 0 ∨ bitI s i = 1 := by unfold bitI; split <;> omega
def mCo (wg s : Int) (n : Nat) (i : Int) (G : Gal) : Gal := loopF (fun i G => mMin (bitI s i) 0 wg G) n i G
theorem mCo_in {wg s : Int} : ∀ (n : Nat) (i : Int) (A : Gal), invG A → invG (mCo wg s n i A) ∧ gPc (mCo wg s n i A) = gPc A ∧ gMi (mCo wg s n i A) = gMi A + n
  | 0, _, A, h => ⟨h, rfl, by show gMi A = gMi A + 0; omega⟩
  | n + 1, i, A, h => by
    obtain ⟨a1, a2, a3⟩ := mMin_in (co := bitI s i) (wi := 0) (wg := wg) h
    obtain ⟨b1, b2, b3⟩ := mCo_in (wg := wg) (s := s) n (i + 1) _ a1
    exact ⟨b1, b2.trans a2, b3.trans (by rw [a3]; omega)⟩
theorem cough_sp {wg s i p t : Int} {B : Gal} (hB : invG B) (hp : 0 ≤ p ∧ p < 4) (hc : ¬ gI (gCe B) p = 19) : mSp (bitI s i) 0 wg B p t = if andI (shrI s i) 1 = 1 then 1 else speakG B p t := by
  unfold bitI
  by_cases c : andI (shrI s i) 1 = 1
  · rw [if_pos c, if_pos c]
    have e3 : ¬ 2 * p % 2 = 1 := by omega
    have e4 : (2 * p + 1) % 2 = 1 := by omega
    unfold mSp mW
    rw [if_neg hc]
    simp only [e3, e4, if_true, decide_true, decide_false, Bool.false_eq_true, if_false]
  · rw [if_neg c, if_neg c]
    exact mSp_0 hB hp t
theorem cough_agr {wg s p : Int} (N : Gal) : ∀ (n : Nat) (i : Int) (A B : Gal), invG A → invG B → 0 ≤ p → p < gPc A → gPc A ≤ 4 → gMi A = gMi N + i → agr p A (setM B (gMi A)) → agr p (mCo wg s n i A) (setM (loopF (coughS N p s) n i B) (gMi (mCo wg s n i A)))
  | 0, _, A, B, hA, hB, h0, h1, h4, hm, h => h
  | n + 1, i, A, B, hA, hB, h0, h1, h4, hm, h => by
    have hm0 : 0 ≤ gMi A := hA.2.2.2.2.2.2.2.2.2.2.2.2.2.2
    have hb1 : (gCe B).length = 4 := hB.2.1
    have hb := bnd_g hB.2.2.2.2.2.2.2.1 (i := p) h0 (by omega)
    have w := mMin_in (co := bitI s i) (wi := 0) (wg := wg) hA
    have hsp : (if andI (shrI s i) 1 = 1 then (1 : Int) else speakG B p (gMi N + i + 1)) = 0 ∨ (if andI (shrI s i) 1 = 1 then (1 : Int) else speakG B p (gMi N + i + 1)) = 1 ∨ (if andI (shrI s i) 1 = 1 then (1 : Int) else speakG B p (gMi N + i + 1)) = -9 := by
      split
      · exact Or.inr (Or.inl rfl)
      · exact speakG_in _ _ _
    refine cough_agr N n (i + 1) (mMin (bitI s i) 0 wg A) (coughS N p s i B) w.1 (invG_walk hB ⟨h0, by omega⟩ hsp).1 h0 (by rw [w.2.1]; exact h1) (by rw [w.2.1]; exact h4) (by rw [w.2.2, hm]; omega) ?_
    refine agr_step hA hB ⟨h0, h1⟩ h (fun c => ?_)
    rw [cough_sp (invG_setM hB (by omega)) ⟨h0, by omega⟩ (by show ¬ gI (gCe B) p = 19; omega), setM_speak, hm]
theorem cough_eq {wg s p : Int} {G : Gal} {n : Nat} (hG : invG G) (hp : 0 ≤ p ∧ p < gPc G) : gI (gCe (mCo wg s n 0 G)) p = gI (gCe (coughG G p n s)) p := by
  have h4 : gPc G ≤ 4 := hG.2.2.2.2.2.2.2.2.2.2.2.2.2.1
  exact (cough_agr (wg := wg) (s := s) (p := p) G n 0 G G hG hG hp.1 hp.2 h4 (by omega) agr_rfl).2.1
def mPr (s t : Int) (n : Nat) (i w : Int) : Int := loopF (fun i w => if andI (shrI s i) 1 = 1 then w * 1 else w * (t - 1)) n i w
def zerS (s : Int) : Nat → Int → Nat
  | 0, _ => 0
  | n + 1, i => (if andI (shrI s i) 1 = 1 then 0 else 1) + zerS s n (i + 1)
theorem powL_a (b : Int) : ∀ (k : Nat) (w : Int), w * powL b (k + 1) = (w * b) * powL b k
  | 0, w => by show w * (1 * b) = w * b * 1; rw [Int.one_mul, Int.mul_one]
  | k + 1, w => by
    show w * (powL b (k + 1) * b) = w * b * (powL b k * b)
    rw [← Int.mul_assoc, powL_a b k w, Int.mul_assoc]
theorem mPr_eq {s t : Int} : ∀ (n : Nat) (i w : Int), mPr s t n i w = w * powL (t - 1) (zerS s n i)
  | 0, i, w => by show w = w * 1; rw [Int.mul_one]
  | n + 1, i, w => by
    show mPr s t n (i + 1) (if andI (shrI s i) 1 = 1 then w * 1 else w * (t - 1)) = _
    have e : zerS s (n + 1) i = (if andI (shrI s i) 1 = 1 then 0 else 1) + zerS s n (i + 1) := rfl
    rw [mPr_eq n, e]
    by_cases c : andI (shrI s i) 1 = 1
    · rw [if_pos c, if_pos c, Int.mul_one, Nat.zero_add]
    · rw [if_neg c, if_neg c, Nat.add_comm, powL_a]
theorem zer_128 : ∀ x : Nat, x < 128 → ((7 : Int) - popI x).toNat = zerS x 7 0 ∧ (x < 64 → ((6 : Int) - popI x).toNat = zerS x 6 0) ∧ (x < 32 → ((5 : Int) - popI x).toNat = zerS x 5 0) ∧ (x < 16 → ((4 : Int) - popI x).toNat = zerS x 4 0) ∧ (x < 8 → ((3 : Int) - popI x).toNat = zerS x 3 0) ∧ (x < 4 → ((2 : Int) - popI x).toNat = zerS x 2 0) ∧ (x < 2 → ((1 : Int) - popI x).toNat = zerS x 1 0) ∧ (x < 1 → ((0 : Int) - popI x).toNat = zerS x 0 0) := by decide +kernel
theorem zer_ok {n : Nat} (h1 : n ≤ 7) {x : Int} (hx : 0 ≤ x) (hx2 : x < 2 ^ n) : ((n : Int) - popI x).toNat = zerS x n 0 := by
  obtain ⟨y, rfl⟩ := Int.eq_ofNat_of_zero_le hx
  rcases (by omega : n = 0 ∨ n = 1 ∨ n = 2 ∨ n = 3 ∨ n = 4 ∨ n = 5 ∨ n = 6 ∨ n = 7) with rfl | rfl | rfl | rfl | rfl | rfl | rfl | rfl
  all_goals
    simp at hx2
    have := zer_128 y (by omega)
  · exact this.2.2.2.2.2.2.2 (by omega)
  · exact this.2.2.2.2.2.2.1 (by omega)
  · exact this.2.2.2.2.2.1 (by omega)
  · exact this.2.2.2.2.1 (by omega)
  · exact this.2.2.2.1 (by omega)
  · exact this.2.2.1 (by omega)
  · exact this.2.1 (by omega)
  · exact this.1
theorem cnt_eq {W : Gal} (h : invG W) : fcG W = cntF W := by
  have h0 : 0 ≤ gPc W := h.2.2.2.2.2.2.2.2.2.2.2.2.1
  have h4 : gPc W ≤ 4 := h.2.2.2.2.2.2.2.2.2.2.2.2.2.1
  unfold fcG cntF
  generalize gPc W = pc at h0 h4
  have e : ∀ (f : Int → Prop) (_ : ∀ i, Decidable (f i)), popI (loopF (fun i acc => if f i then orI acc (shI 1 i) else orI acc 0) pc.toNat 0 0) = loopF (fun i acc => if f i then acc + 1 else acc + 0) pc.toNat 0 0 := by
    intro f _
    rcases (by omega : pc = 0 ∨ pc = 1 ∨ pc = 2 ∨ pc = 3 ∨ pc = 4) with rfl | rfl | rfl | rfl | rfl
    · show popI 0 = 0
      decide +kernel
    · show popI (loopF _ 1 0 0) = loopF _ 1 0 0
      by_cases c0 : f 0 <;> simp only [loopF, c0, if_true, if_false] <;> decide +kernel
    · show popI (loopF _ 2 0 0) = loopF _ 2 0 0
      by_cases c0 : f 0 <;> by_cases c1 : f (0 + 1) <;> simp only [loopF, c0, c1, if_true, if_false] <;> decide +kernel
    · show popI (loopF _ 3 0 0) = loopF _ 3 0 0
      by_cases c0 : f 0 <;> by_cases c1 : f (0 + 1) <;> by_cases c2 : f (0 + 1 + 1) <;> simp only [loopF, c0, c1, c2, if_true, if_false] <;> decide +kernel
    · show popI (loopF _ 4 0 0) = loopF _ 4 0 0
      by_cases c0 : f 0 <;> by_cases c1 : f (0 + 1) <;> by_cases c2 : f (0 + 1 + 1) <;> by_cases c3 : f (0 + 1 + 1 + 1) <;> simp only [loopF, c0, c1, c2, c3, if_true, if_false] <;> decide +kernel
  exact e (fun i => 19 ≤ gI (gCe W) i) (fun _ => inferInstance)
