/-! part:mpure -/
/-! ===== what the two have in common ===== -/
theorem walk_faced {G : Gal} {p q sp : Int} (hI : invG G) (hp : 0 ≤ p ∧ p < 4) (hq : 0 ≤ q ∧ q < 4) (hf : 19 ≤ gI (gCe G) p) : gI (gCe (walkG G q sp)) p = gI (gCe G) p ∧ gI (gTs (walkG G q sp)) p = gI (gTs G) p := by
  unfold walkG
  split
  · exact ⟨rfl, rfl⟩
  · next c =>
    have e : q ≠ p := fun z => c (z ▸ hf)
    split
    · exact ⟨gI_n hq.1 hp.1 e, rfl⟩
    · exact ⟨gI_n hq.1 hp.1 e, gI_n hq.1 hp.1 e⟩
theorem pairs_faced {p : Int} (hp : 0 ≤ p ∧ p < 4) : ∀ (k : Nat) (q : Int) (G : Gal), invG G → 0 ≤ q → q + k ≤ gPc G → 19 ≤ gI (gCe G) p → gI (gCe (loopF (fun p G => walkG G p (speakG G p (gMi G))) k q G)) p = gI (gCe G) p ∧ gI (gTs (loopF (fun p G => walkG G p (speakG G p (gMi G))) k q G)) p = gI (gTs G) p
  | 0, q, G, _, _, _, _ => ⟨rfl, rfl⟩
  | k + 1, q, G, h, h0, h1, hf => by
    have h4 : gPc G ≤ 4 := h.2.2.2.2.2.2.2.2.2.2.2.2.2.1
    obtain ⟨a1, a2, a3⟩ := invG_walk h (p := q) (sp := speakG G q (gMi G)) (by omega) (speakG_in _ _ _)
    obtain ⟨b1, b2⟩ := walk_faced (sp := speakG G q (gMi G)) h hp (q := q) (by omega) hf
    obtain ⟨c1, c2⟩ := pairs_faced hp k (q + 1) (walkG G q (speakG G q (gMi G))) a1 (by omega) (by omega) (by omega)
    exact ⟨c1.trans b1, c2.trans b2⟩
theorem min_faced {G : Gal} {p : Int} (h : invG G) (hp : 0 ≤ p ∧ p < 4) (hf : 19 ≤ gI (gCe G) p) : gI (gCe (minG G)) p = gI (gCe G) p ∧ gI (gTs (minG G)) p = gI (gTs G) p := by
  obtain ⟨be, ce, ts, ki, fi, br, pc, mi⟩ := G
  have h0 : 0 ≤ pc := h.2.2.2.2.2.2.2.2.2.2.2.2.1
  have h1 : 0 ≤ mi := h.2.2.2.2.2.2.2.2.2.2.2.2.2.2
  have h2 : invG (be, ce, ts, ki, fi, br, pc, mi + 1) := by
    obtain ⟨a1, a2, a3, a4, a5, a6, a7, a8, a9, a10, a11, a12, a13, a14, a15⟩ := h
    exact ⟨a1, a2, a3, a4, a5, a6, a7, a8, a9, a10, a11, a12, a13, a14, by show 0 ≤ mi + 1; omega⟩
  exact pairs_faced hp pc.toNat 0 (be, ce, ts, ki, fi, br, pc, mi + 1) h2 (by omega) (by show 0 + (pc.toNat : Int) ≤ pc; omega) hf
theorem said_dead {p : Int} (hp : 0 ≤ p ∧ p < 4) : ∀ (k : Nat) (n : Int) (G : Gal), invG G → 19 ≤ gI (gCe G) p → gI (gTs G) p ≠ 0 → (whenF (saidC p) k n G).1 = -9
  | 0, _, _, _, _, _ => rfl
  | k + 1, n, G, h, hf, ht => by
    have e : saidC p G = false := by simp only [saidC, doneC, decide_eq_false ht, Bool.and_false]
    show (if saidC p G = true then (n, G) else whenF (saidC p) k (n + 1) (minG G)).1 = -9
    rw [e, if_neg (by decide)]
    obtain ⟨b1, b2⟩ := min_faced h hp hf
    exact said_dead hp k (n + 1) (minG G) (invG_min h).1 (by omega) (by omega)
theorem said_eq {p : Int} (hp : 0 ≤ p ∧ p < 4) : ∀ (k : Nat) (n : Int) (G : Gal), invG G → (whenF (saidC p) k n G).1 = if gI (gTs (whenF (faceC p) k n G).2) p = 0 then (whenF (faceC p) k n G).1 else -9
  | 0, n, G, _ => by
    show (-9 : Int) = if _ then -9 else -9
    split <;> rfl
  | k + 1, n, G, h => by
    by_cases c : faceC p G = true
    · have hf : 19 ≤ gI (gCe G) p := of_decide_eq_true c
      have e1 : whenF (faceC p) (k + 1) n G = (n, G) := by
        show (if faceC p G = true then (n, G) else _) = _
        rw [if_pos c]
      rw [e1]
      by_cases d : gI (gTs G) p = 0
      · have e2 : saidC p G = true := by simp only [saidC, c, doneC, decide_eq_true d, Bool.and_self]
        rw [if_pos d]
        show (if saidC p G = true then (n, G) else _).1 = _
        rw [if_pos e2]
      · rw [if_neg d]
        exact said_dead hp (k + 1) n G h hf d
    · have e1 : whenF (faceC p) (k + 1) n G = whenF (faceC p) k (n + 1) (minG G) := by
        show (if faceC p G = true then (n, G) else _) = _
        rw [if_neg c]
      have e2 : ¬ saidC p G = true := by
        unfold saidC
        rw [Bool.eq_false_iff.mpr c, Bool.false_and]
        decide
      rw [e1]
      show (if saidC p G = true then (n, G) else whenF (saidC p) k (n + 1) (minG G)).1 = _
      rw [if_neg e2]
      exact said_eq hp k (n + 1) (minG G) (invG_min h).1
/-- the answer of `begins`: of all that are soonest the greatest -/
def bst (s : Int → Int) (lo hi b m : Int) : Prop := lo ≤ b ∧ b < hi ∧ s b = m ∧ 0 ≤ m ∧ ∀ v, lo ≤ v → v < hi → s v = -9 ∨ m < s v ∨ (m = s v ∧ v ≤ b)
def saidS (G : Gal) (p v : Int) : Int := (whenF (saidC p) 61 0 (sayG G p v)).1
def upS (G : Gal) (p v : Int) (x : Int × Int) : Int × Int := if 0 ≤ saidS G p v ∧ saidS G p v ≤ x.2 then (v, saidS G p v) else x
theorem saidS_in {G : Gal} {p v : Int} (h : invG G) : saidS G p v = -9 ∨ (0 ≤ saidS G p v ∧ saidS G p v ≤ 60) := by
  have := whenF_in (saidC p) 61 0 (sayG G p v) (invG_say h)
  unfold saidS
  omega
theorem sayS_eq {G : Gal} {p j : Int} {x : Int × Int} (h : invG G) (hp : 0 ≤ p ∧ p < 4) : sayS G p j x = if soonB (saidS G p (20 - j)) x.2 = true then (20 - j, saidS G p (20 - j)) else x := by
  have e := said_eq hp 61 0 (sayG G p (20 - j)) (invG_say h)
  unfold sayS saidS
  by_cases c : gI (gTs (whenF (faceC p) 61 0 (sayG G p (20 - j))).2) p = 0
  · rw [if_pos c] at e ⊢
    rw [e]
  · rw [if_neg c] at e ⊢
    rw [e]
    have : ¬ soonB (-9) x.2 = true := by unfold soonB; simp
    rw [if_neg this]
theorem soonB_t {a b : Int} : soonB a b = true ↔ (¬ a = -9 ∧ (b = -9 ∨ a < b)) := by
  unfold soonB
  simp only [Bool.and_eq_true, Bool.or_eq_true, decide_eq_true_eq]
theorem down_ch {G : Gal} {p : Int} (h : invG G) (hp : 0 ≤ p ∧ p < 4) : ∀ (k : Nat) (j : Int) (x : Int × Int), 0 ≤ j → j + k = 21 → ((x = (-9, -9) ∧ ∀ v, 21 - j ≤ v → v < 21 → saidS G p v = -9) ∨ bst (saidS G p) (21 - j) 21 x.1 x.2) →
    ((loopF (sayS G p) k j x = (-9, -9) ∧ ∀ v, 0 ≤ v → v < 21 → saidS G p v = -9) ∨ bst (saidS G p) 0 21 (loopF (sayS G p) k j x).1 (loopF (sayS G p) k j x).2)
  | 0, j, x, h0, h1, hx => by
    have e : 21 - j = 0 := by omega
    rw [e] at hx
    exact hx
  | k + 1, j, x, h0, h1, hx => by
    refine down_ch h hp k (j + 1) (sayS G p j x) (by omega) (by omega) ?_
    have hs := saidS_in (p := p) (v := 20 - j) h
    have e1 : 21 - (j + 1) = 20 - j := by omega
    rw [sayS_eq h hp, e1]
    by_cases c : soonB (saidS G p (20 - j)) x.2 = true
    · rw [if_pos c]
      rw [soonB_t] at c
      right
      refine ⟨by omega, by show 20 - j < 21; omega, rfl, by show 0 ≤ saidS G p (20 - j); omega, fun v v0 v1 => ?_⟩
      by_cases e : v = 20 - j
      · subst e
        exact Or.inr (Or.inr ⟨rfl, Int.le_refl _⟩)
      · rcases hx with ⟨rfl, hx⟩ | hx
        · exact Or.inl (hx v (by omega) v1)
        · have := hx.2.2.2.2 v (by omega) v1
          have := hx.2.2.2.1
          show saidS G p v = -9 ∨ saidS G p (20 - j) < saidS G p v ∨ (saidS G p (20 - j) = saidS G p v ∧ v ≤ 20 - j)
          omega
    · rw [if_neg c]
      rw [soonB_t] at c
      rcases hx with ⟨rfl, hx⟩ | hx
      · left
        refine ⟨rfl, fun v v0 v1 => ?_⟩
        by_cases e : v = 20 - j
        · subst e
          exact Classical.byContradiction (fun z => c ⟨z, Or.inl rfl⟩)
        · exact hx v (by omega) v1
      · right
        obtain ⟨b1, b2, b3, b4, b5⟩ := hx
        refine ⟨by omega, b2, b3, b4, fun v v0 v1 => ?_⟩
        by_cases e : v = 20 - j
        · subst e
          omega
        · exact b5 v (by omega) v1
theorem up_ch {G : Gal} {p : Int} (h : invG G) : ∀ (k : Nat) (j : Int) (x : Int × Int), 0 ≤ j → j + k = 21 → ((x = (-9, 61) ∧ ∀ v, 0 ≤ v → v < j → saidS G p v = -9) ∨ bst (saidS G p) 0 j x.1 x.2) →
    ((loopF (upS G p) k j x = (-9, 61) ∧ ∀ v, 0 ≤ v → v < 21 → saidS G p v = -9) ∨ bst (saidS G p) 0 21 (loopF (upS G p) k j x).1 (loopF (upS G p) k j x).2)
  | 0, j, x, h0, h1, hx => by
    have e : j = 21 := by omega
    rw [e] at hx
    exact hx
  | k + 1, j, x, h0, h1, hx => by
    refine up_ch h k (j + 1) (upS G p j x) (by omega) (by omega) ?_
    have hs := saidS_in (p := p) (v := j) h
    unfold upS
    by_cases c : 0 ≤ saidS G p j ∧ saidS G p j ≤ x.2
    · rw [if_pos c]
      right
      refine ⟨h0, by show j < j + 1; omega, rfl, c.1, fun v v0 v1 => ?_⟩
      by_cases e : v = j
      · subst e
        exact Or.inr (Or.inr ⟨rfl, Int.le_refl _⟩)
      · rcases hx with ⟨rfl, hx⟩ | hx
        · exact Or.inl (hx v v0 (by omega))
        · have := hx.2.2.2.2 v v0 (by omega)
          show saidS G p v = -9 ∨ saidS G p j < saidS G p v ∨ (saidS G p j = saidS G p v ∧ v ≤ j)
          omega
    · rw [if_neg c]
      rcases hx with ⟨rfl, hx⟩ | hx
      · left
        refine ⟨rfl, fun v v0 v1 => ?_⟩
        by_cases e : v = j
        · subst e
          simp only [] at c
          omega
        · exact hx v v0 (by omega)
      · right
        obtain ⟨b1, b2, b3, b4, b5⟩ := hx
        refine ⟨b1, by omega, b3, b4, fun v v0 v1 => ?_⟩
        by_cases e : v = j
        · subst e
          omega
        · exact b5 v v0 (by omega)
theorem begins_eq {G : Gal} {p : Int} (h : invG G) (hp : 0 ≤ p ∧ p < 4) : (loopF (upS G p) 21 0 (-9, 61)).1 = (loopF (sayS G p) 21 0 (-9, -9)).1 := by
  have d := down_ch h hp 21 0 (-9, -9) (by omega) (by omega) (Or.inl ⟨rfl, fun v a b => by omega⟩)
  have u := up_ch (p := p) h 21 0 (-9, 61) (by omega) (by omega) (Or.inl ⟨rfl, fun v a b => by omega⟩)
  generalize loopF (sayS G p) 21 0 (-9, -9) = y at d ⊢
  generalize loopF (upS G p) 21 0 (-9, 61) = x at u ⊢
  rcases d with ⟨rfl, d⟩ | ⟨d1, d2, d3, d4, d5⟩
  · rcases u with ⟨rfl, u⟩ | ⟨u1, u2, u3, u4, u5⟩
    · rfl
    · have := d x.1 u1 u2
      omega
  · rcases u with ⟨rfl, u⟩ | ⟨u1, u2, u3, u4, u5⟩
    · have := u y.1 d1 d2
      omega
    · have a := d5 x.1 u1 u2
      have b := u5 y.1 d1 d2
      omega
/-! ===== when all are at the face ===== -/
theorem pass_sh : ∀ (k : Nat) (i j : Int) (G : Gal), loopF (fun _ G => minG G) k i G = loopF (fun _ G => minG G) k j G
  | 0, _, _, _ => rfl
  | k + 1, i, j, G => pass_sh k (i + 1) (j + 1) (minG G)
theorem passG_s (t : Nat) (G : Gal) : passG (t + 1) G = passG t (minG G) := pass_sh t (0 + 1) 0 (minG G)
theorem passG_e : ∀ (t : Nat) (G : Gal), passG (t + 1) G = minG (passG t G)
  | 0, _ => rfl
  | t + 1, G => by rw [passG_s, passG_e t (minG G), ← passG_s]
theorem whenF_ch (c : Gal → Bool) : ∀ (k : Nat) (n : Int) (G : Gal), ((whenF c k n G).1 = -9 ∧ ∀ t, t < k → c (passG t G) = false) ∨ (∃ T : Nat, T < k ∧ (whenF c k n G).1 = n + T ∧ c (passG T G) = true ∧ ∀ t, t < T → c (passG t G) = false)
  | 0, n, G => Or.inl ⟨rfl, fun t h => absurd h (Nat.not_lt_zero t)⟩
  | k + 1, n, G => by
    by_cases e : c G = true
    · right
      refine ⟨0, by omega, ?_, e, fun t h => absurd h (Nat.not_lt_zero t)⟩
      show (if c G = true then (n, G) else _).1 = _
      rw [if_pos e]
      show n = n + ((0 : Nat) : Int)
      omega
    · have e1 : whenF c (k + 1) n G = whenF c k (n + 1) (minG G) := by
        show (if c G = true then (n, G) else _) = _
        rw [if_neg e]
      have sh : ∀ t, c (passG t (minG G)) = c (passG (t + 1) G) := fun t => by rw [passG_s]
      rw [e1]
      rcases whenF_ch c k (n + 1) (minG G) with ⟨h1, h2⟩ | ⟨T, h1, h2, h3, h4⟩
      · left
        refine ⟨h1, fun t ht => ?_⟩
        cases t with
        | zero => exact Bool.eq_false_iff.mpr e
        | succ t => rw [← sh]; exact h2 t (by omega)
      · right
        refine ⟨T + 1, by omega, by omega, by rw [← sh]; exact h3, fun t ht => ?_⟩
        cases t with
        | zero => exact Bool.eq_false_iff.mpr e
        | succ t => rw [← sh]; exact h4 t (by omega)
theorem face_mono {G : Gal} {p : Int} (h : invG G) (hp : 0 ≤ p ∧ p < 4) {s : Nat} (hf : faceC p (passG s G) = true) : ∀ d : Nat, faceC p (passG (s + d) G) = true
  | 0 => hf
  | d + 1 => by
    have ih := face_mono h hp hf d
    have h1 : 19 ≤ gI (gCe (passG (s + d) G)) p := of_decide_eq_true ih
    have h2 := min_faced (invG_pass (s + d) h).1 hp h1
    show faceC p (passG (s + d + 1) G) = true
    rw [passG_e]
    exact decide_eq_true (by omega)
theorem allF_t {f : Int → Bool} : ∀ (k : Nat) (i : Int), allF f k i = true ↔ ∀ j, i ≤ j → j < i + k → f j = true
  | 0, i => ⟨fun _ j a b => by omega, fun _ => rfl⟩
  | k + 1, i => by
    show (if f i = true then allF f k (i + 1) else false) = true ↔ _
    by_cases c : f i = true
    · rw [if_pos c, allF_t k (i + 1)]
      constructor
      · intro h j a b
        by_cases e : j = i
        · rw [e]; exact c
        · exact h j (by omega) (by omega)
      · intro h j a b
        exact h j (by omega) (by omega)
    · rw [if_neg c]
      constructor
      · intro h; cases h
      · intro h; exact absurd (h i (by omega) (by omega)) c
def amF (f : Int → Int) : Nat → Int → Int → Int
  | 0, _, l => l
  | k + 1, p, l => if f p < 0 then -9 else amF f k (p + 1) (if l < f p then f p else l)
theorem amF_ch {f : Int → Int} : ∀ (k : Nat) (p l : Int), (amF f k p l = -9 ∧ ∃ q, p ≤ q ∧ q < p + k ∧ f q < 0) ∨ ((∀ q, p ≤ q → q < p + k → 0 ≤ f q ∧ f q ≤ amF f k p l) ∧ l ≤ amF f k p l ∧ (amF f k p l = l ∨ ∃ q, p ≤ q ∧ q < p + k ∧ amF f k p l = f q))
  | 0, p, l => Or.inr ⟨fun q a b => by omega, Int.le_refl _, Or.inl rfl⟩
  | k + 1, p, l => by
    by_cases c : f p < 0
    · left
      refine ⟨?_, p, by omega, by omega, c⟩
      show (if f p < 0 then -9 else _) = (-9 : Int)
      rw [if_pos c]
    · have e : amF f (k + 1) p l = amF f k (p + 1) (if l < f p then f p else l) := by
        show (if f p < 0 then -9 else _) = _
        rw [if_neg c]
      rw [e]
      have hm : l ≤ (if l < f p then f p else l) ∧ f p ≤ (if l < f p then f p else l) ∧ ((if l < f p then f p else l) = l ∨ (if l < f p then f p else l) = f p) := by
        split <;> omega
      generalize (if l < f p then f p else l) = l' at hm
      rcases amF_ch (f := f) k (p + 1) l' with ⟨h1, q, h2, h3, h4⟩ | ⟨h1, h2, h3⟩
      · exact Or.inl ⟨h1, q, by omega, by omega, h4⟩
      · right
        refine ⟨fun q a b => ?_, by omega, ?_⟩
        · by_cases e : q = p
          · rw [e]; omega
          · exact h1 q (by omega) (by omega)
        · rcases h3 with h3 | ⟨q, a, b, d⟩
          · rcases hm.2.2 with m | m
            · exact Or.inl (h3.trans m)
            · exact Or.inr ⟨p, by omega, by omega, h3.trans m⟩
          · exact Or.inr ⟨q, by omega, by omega, d⟩
theorem all_eq {G : Gal} (h : invG G) : amF (fun p => (whenF (faceC p) 61 0 G).1) (gPc G).toNat 0 0 = (whenF allC 61 0 G).1 := by
  have hpc : ∀ t, gPc (passG t G) = gPc G := fun t => (invG_pass t h).2.1
  have h4 : gPc G ≤ 4 := h.2.2.2.2.2.2.2.2.2.2.2.2.2.1
  have h0 : 0 ≤ gPc G := h.2.2.2.2.2.2.2.2.2.2.2.2.1
  have hall : ∀ t, allC (passG t G) = true ↔ ∀ q, 0 ≤ q → q < gPc G → faceC q (passG t G) = true := by
    intro t
    unfold allC
    rw [hpc, allF_t]
    constructor
    · intro a q b c
      exact a q b (by omega)
    · intro a q b c
      exact a q b (by omega)
  rcases amF_ch (f := fun p => (whenF (faceC p) 61 0 G).1) (gPc G).toNat 0 0 with ⟨h1, q, h2, h3, h5⟩ | ⟨h1, h2, h3⟩
  · rw [h1]
    rcases whenF_ch (faceC q) 61 0 G with ⟨a1, a2⟩ | ⟨T, a1, a2, a3, a4⟩
    · rcases whenF_ch allC 61 0 G with ⟨b1, b2⟩ | ⟨T, b1, b2, b3, b4⟩
      · exact b1.symm
      · have := (hall T).mp b3 q h2 (by omega)
        rw [a2 T b1] at this
        cases this
    · omega
  · generalize hR : amF (fun p => (whenF (faceC p) 61 0 G).1) (gPc G).toNat 0 0 = R at h1 h2 h3
    have hR2 : R < 61 := by
      rcases h3 with h3 | ⟨q, a, b, d⟩
      · omega
      · have := whenF_9 (faceC q) (k := 61) (n := 0) h (by omega)
        omega
    have hall2 : allC (passG R.toNat G) = true := by
      rw [hall]
      intro q q0 q1
      have hq := h1 q q0 (by omega)
      rcases whenF_ch (faceC q) 61 0 G with ⟨a1, a2⟩ | ⟨T, a1, a2, a3, a4⟩
      · omega
      · have hT : T ≤ R.toNat := by omega
        have := face_mono h (p := q) (by omega) a3 (R.toNat - T)
        rw [show T + (R.toNat - T) = R.toNat by omega] at this
        exact this
    have hno : ∀ t, t < R.toNat → allC (passG t G) = false := by
      intro t ht
      rcases h3 with h3 | ⟨q, a, b, d⟩
      · omega
      · rcases whenF_ch (faceC q) 61 0 G with ⟨a1, a2⟩ | ⟨T, a1, a2, a3, a4⟩
        · omega
        · have h6 := a4 t (by omega)
          refine Bool.eq_false_iff.mpr (fun z => ?_)
          have := (hall t).mp z q a (by omega)
          rw [h6] at this
          cases this
    rcases whenF_ch allC 61 0 G with ⟨b1, b2⟩ | ⟨T, b1, b2, b3, b4⟩
    · have := b2 R.toNat (by omega)
      rw [hall2] at this
      cases this
    · have e : T = R.toNat := by
        rcases Nat.lt_trichotomy T R.toNat with q | q | q
        · have := hno T q
          rw [b3] at this
          cases this
        · exact q
        · have := b4 R.toNat q
          rw [hall2] at this
          cases this
      rw [b2, e]
      omega
/-! ===== a pair's way does not hang on the others ===== -/
def agr (p : Int) (A B : Gal) : Prop := gBe A = gBe B ∧ gI (gCe A) p = gI (gCe B) p ∧ gI (gTs A) p = gI (gTs B) p ∧ gI (gKi A) (2 * p) = gI (gKi B) (2 * p) ∧ gI (gKi A) (2 * p + 1) = gI (gKi B) (2 * p + 1) ∧ gI (gFi A) (2 * p) = gI (gFi B) (2 * p) ∧ gI (gFi A) (2 * p + 1) = gI (gFi B) (2 * p + 1) ∧ gI (gBr A) (2 * p) = gI (gBr B) (2 * p) ∧ gI (gBr A) (2 * p + 1) = gI (gBr B) (2 * p + 1) ∧ gMi A = gMi B
theorem agr_rfl {p : Int} {A : Gal} : agr p A A := ⟨rfl, rfl, rfl, rfl, rfl, rfl, rfl, rfl, rfl, rfl⟩
theorem agr_walk {p sp : Int} {A B : Gal} (hA : invG A) (hB : invG B) (hp : 0 ≤ p ∧ p < 4) (hs : sp = 0 ∨ sp = 1 ∨ sp = -9) (h : agr p A B) : agr p (walkG A p sp) (walkG B p sp) := by
  obtain ⟨h1, h2, h3, h4, h5, h6, h7, h8, h9, h10⟩ := h
  obtain ⟨a1, a2, a3, a4, a5, a6, a7, a8, a9, a10, a11, a12, a13, a14, a15⟩ := hA
  obtain ⟨b1, b2, b3, b4, b5, b6, b7, b8, b9, b10, b11, b12, b13, b14, b15⟩ := hB
  unfold walkG
  rw [← h2]
  by_cases c : 19 ≤ gI (gCe A) p
  · rw [if_pos c, if_pos c]
    exact ⟨h1, h2, h3, h4, h5, h6, h7, h8, h9, h10⟩
  · rw [if_neg c, if_neg c]
    by_cases d : sp = -9
    · rw [if_pos d, if_pos d, ← h4]
      refine ⟨h1, ?_, h3, h4, h5, h6, h7, h8, h9, h10⟩
      show gI (sI _ _ _) p = gI (sI _ _ _) p
      rw [gI_s hp.1 (by omega), gI_s hp.1 (by omega)]
    · rw [if_neg d, if_neg d, ← h1, ← h3]
      refine ⟨rfl, ?_, ?_, h4, h5, h6, h7, ?_, ?_, h10⟩
      · show gI (sI _ _ _) p = gI (sI _ _ _) p
        rw [gI_s hp.1 (by omega), gI_s hp.1 (by omega)]
      · show gI (sI _ _ _) p = gI (sI _ _ _) p
        rw [gI_s hp.1 (by omega), gI_s hp.1 (by omega)]
      · show gI (sI _ _ _) (2 * p) = gI (sI _ _ _) (2 * p)
        rcases (by omega : sp = 0 ∨ sp = 1) with rfl | rfl
        · rw [Int.add_zero, h8, gI_s (by omega) (by omega), gI_s (by omega) (by omega)]
        · rw [gI_n (by omega) (by omega) (by omega), gI_n (by omega) (by omega) (by omega), h8]
      · show gI (sI _ _ _) (2 * p + 1) = gI (sI _ _ _) (2 * p + 1)
        rcases (by omega : sp = 0 ∨ sp = 1) with rfl | rfl
        · rw [gI_n (by omega) (by omega) (by omega), gI_n (by omega) (by omega) (by omega), h9]
        · rw [h9, gI_s (by omega) (by omega), gI_s (by omega) (by omega)]
theorem agr_oth {p q sp : Int} {A B : Gal} (hp : 0 ≤ p ∧ p < 4) (hq : 0 ≤ q ∧ q < 4) (e : q ≠ p) (hs : sp = 0 ∨ sp = 1 ∨ sp = -9) (h : agr p A B) : agr p (walkG A q sp) B := by
  obtain ⟨h1, h2, h3, h4, h5, h6, h7, h8, h9, h10⟩ := h
  unfold walkG
  split
  · exact ⟨h1, h2, h3, h4, h5, h6, h7, h8, h9, h10⟩
  · split
    · refine ⟨h1, ?_, h3, h4, h5, h6, h7, h8, h9, h10⟩
      exact (gI_n hq.1 hp.1 e).trans h2
    · refine ⟨h1, (gI_n hq.1 hp.1 e).trans h2, (gI_n hq.1 hp.1 e).trans h3, h4, h5, h6, h7, (gI_n (by omega) (by omega) (by omega)).trans h8, (gI_n (by omega) (by omega) (by omega)).trans h9, h10⟩
theorem agr_mSp {co wi wg p t : Int} {A B : Gal} (h : agr p A B) : mSp co wi wg A p t = mSp co wi wg B p t := by
  obtain ⟨h1, h2, h3, h4, h5, h6, h7, h8, h9, h10⟩ := h
  have e1 : 2 * p / 2 = p := by omega
  have e2 : (2 * p + 1) / 2 = p := by omega
  unfold mSp mW
  simp only [e1, e2, h1, h2, h3, h4, h5, h6, h7]
theorem agr_go {co wi wg p : Int} {A B : Gal} (hA : invG A) (hB : invG B) (hp : 0 ≤ p ∧ p < 4) (h : agr p A B) : agr p (mGo co wi wg A p) (mGo co wi wg B p) := by
  unfold mGo
  rw [agr_mSp h, h.2.2.2.2.2.2.2.2.2]
  exact agr_walk hA hB hp (mSp_in _ _ _ _ _ _) h
theorem agr_late {co wi wg p : Int} (hp : 0 ≤ p ∧ p < 4) {B : Gal} : ∀ (k : Nat) (q : Int) (A : Gal), invG A → p < q → q + k ≤ gPc A → agr p A B → agr p (loopF (fun p G => mGo co wi wg G p) k q A) B
  | 0, q, A, _, _, _, h => h
  | k + 1, q, A, hA, h0, h1, h => by
    have h4 : gPc A ≤ 4 := hA.2.2.2.2.2.2.2.2.2.2.2.2.2.1
    obtain ⟨a1, a2, a3⟩ := invG_walk hA (p := q) (sp := mSp co wi wg A q (gMi A)) (by omega) (mSp_in _ _ _ _ _ _)
    exact agr_late hp k (q + 1) (mGo co wi wg A q) a1 (by omega) (by show q + 1 + k ≤ gPc (walkG A q (mSp co wi wg A q (gMi A))); omega) (agr_oth hp (by omega) (by omega) (mSp_in _ _ _ _ _ _) h)
theorem agr_pairs {co wi wg p : Int} (hp : 0 ≤ p ∧ p < 4) {B : Gal} (hB : invG B) : ∀ (k : Nat) (q : Int) (A : Gal), invG A → 0 ≤ q → q ≤ p → p < q + k → q + k ≤ gPc A → agr p A B → agr p (loopF (fun p G => mGo co wi wg G p) k q A) (mGo co wi wg B p)
  | 0, q, A, _, _, _, _, _, _ => by omega
  | k + 1, q, A, hA, h9, h0, h1, h2, h => by
    have h4 : gPc A ≤ 4 := hA.2.2.2.2.2.2.2.2.2.2.2.2.2.1
    obtain ⟨a1, a2, a3⟩ := invG_walk hA (p := q) (sp := mSp co wi wg A q (gMi A)) (by omega) (mSp_in _ _ _ _ _ _)
    by_cases e : q = p
    · subst e
      exact agr_late hp k (q + 1) (mGo co wi wg A q) a1 (by omega) (by show q + 1 + k ≤ gPc (walkG A q (mSp co wi wg A q (gMi A))); omega) (agr_go hA hB hp h)
    · exact agr_pairs hp hB k (q + 1) (mGo co wi wg A q) a1 (by omega) (by omega) (by omega) (by show q + 1 + k ≤ gPc (walkG A q (mSp co wi wg A q (gMi A))); omega) (agr_oth hp (by omega) e (mSp_in _ _ _ _ _ _) h)
def tick (G : Gal) : Gal := (G.1, G.2.1, G.2.2.1, G.2.2.2.1, G.2.2.2.2.1, G.2.2.2.2.2.1, gPc G, gMi G + 1)
theorem invG_tick {G : Gal} (h : invG G) : invG (tick G) := by
  obtain ⟨a1, a2, a3, a4, a5, a6, a7, a8, a9, a10, a11, a12, a13, a14, a15⟩ := h
  exact ⟨a1, a2, a3, a4, a5, a6, a7, a8, a9, a10, a11, a12, a13, a14, by show 0 ≤ gMi G + 1; omega⟩
theorem agr_min {co wi wg p : Int} {A B : Gal} (hA : invG A) (hB : invG B) (hp : 0 ≤ p ∧ p < gPc A) (h : agr p A B) : agr p (mMin co wi wg A) (mGo co wi wg (tick B) p) := by
  have h4 : gPc A ≤ 4 := hA.2.2.2.2.2.2.2.2.2.2.2.2.2.1
  have ht : agr p (tick A) (tick B) := by
    obtain ⟨h1, h2, h3, h4, h5, h6, h7, h8, h9, h10⟩ := h
    exact ⟨h1, h2, h3, h4, h5, h6, h7, h8, h9, by show gMi A + 1 = gMi B + 1; omega⟩
  exact agr_pairs ⟨hp.1, by omega⟩ (invG_tick hB) (gPc A).toNat 0 (tick A) (invG_tick hA) (by omega) hp.1 (by omega) (by show 0 + ((gPc A).toNat : Int) ≤ gPc A; omega) ht
