/-! part:mhumpa -/
/-! ===== the hum: the fewest, forward and backward ===== -/
def upI (x : Int) : Int := if x = -9 then 10000 else x
def lowP (P : Int → Prop) (y : Int) : Prop := (∀ x, P x → y ≤ x) ∧ (y = 10000 ∨ P y)
theorem lowP_c {P Q : Int → Prop} {y : Int} (h : lowP P y) (e : ∀ x, Q x ↔ P x) : lowP Q y :=
  ⟨fun x hx => h.1 x ((e x).mp hx), h.2.elim Or.inl (fun q => Or.inr ((e y).mpr q))⟩
theorem lowP_one {P Q : Int → Prop} {x0 y : Int} (h : lowP P y) (e : ∀ x, Q x ↔ P x ∨ x = x0) : lowP Q (if x0 < y then x0 else y) := by
  by_cases c : x0 < y
  · rw [if_pos c]
    refine ⟨fun x hx => ?_, Or.inr ((e x0).mpr (Or.inr rfl))⟩
    rcases (e x).mp hx with q | q
    · have := h.1 x q
      omega
    · omega
  · rw [if_neg c]
    refine ⟨fun x hx => ?_, h.2.elim Or.inl (fun q => Or.inr ((e y).mpr (Or.inl q)))⟩
    rcases (e x).mp hx with q | q
    · exact h.1 x q
    · omega
theorem lowP_u {P : Int → Prop} {y z : Int} (h : lowP P y) (k : lowP P z) (hb : ∀ x, P x → x < 10000) : y = z := by
  rcases h.2 with a | a
  · rcases k.2 with b | b
    · omega
    · have := h.1 z b
      have := hb z b
      omega
  · rcases k.2 with b | b
    · have := k.1 y a
      have := hb y a
      omega
    · have := h.1 z b
      have := k.1 y a
      omega
def srcP (wk be : List Int) (g s d x : Int) : Prop := gI wk s < 10000 ∧ ((s = 19 ∧ d = 19 ∧ x = gI wk s) ∨ (s < 19 ∧ d = s + 1 ∧ x = gI wk s + gI be d) ∨ (s < 19 ∧ d = mn 19 (s + g) ∧ x = gI wk s))
def cumP (wk be : List Int) (g c d x : Int) : Prop := ∃ s, 0 ≤ s ∧ s < c ∧ srcP wk be g s d x
theorem cumP_s {wk be : List Int} {g c d x : Int} (h0 : 0 ≤ c) : cumP wk be g (c + 1) d x ↔ cumP wk be g c d x ∨ srcP wk be g c d x := by
  constructor
  · rintro ⟨s, h1, h2, h3⟩
    by_cases e : s = c
    · subst e
      exact Or.inr h3
    · exact Or.inl ⟨s, h1, by omega, h3⟩
  · rintro (⟨s, h1, h2, h3⟩ | h)
    · exact ⟨s, h1, by omega, h3⟩
    · exact ⟨c, h0, by omega, h⟩
def mWp (wk wn be : List Int) (c : Int) : List Int := sI wn (c + 1) (if gI wk c + gI be (c + 1) < gI wn (c + 1) then gI wk c + gI be (c + 1) else gI wn (c + 1))
def mWo (wk be : List Int) (g c : Int) (wn : List Int) : List Int := if c = 19 then sI wn 19 (if gI wk 19 < gI wn 19 then gI wk 19 else gI wn 19) else sI (mWp wk wn be c) (mn 19 (c + g)) (if gI wk c < gI (mWp wk wn be c) (mn 19 (c + g)) then gI wk c else gI (mWp wk wn be c) (mn 19 (c + g)))
def mWs (wk be : List Int) (g c : Int) (wn : List Int) : List Int := if gI wk c < 10000 then mWo wk be g c wn else wn
theorem mWs_len {wk be wn : List Int} {g c : Int} : (mWs wk be g c wn).length = wn.length := by
  unfold mWs mWo mWp
  split
  · split
    · exact len_s
    · rw [len_s, len_s]
  · rfl
theorem mWs_low {wk be wn : List Int} {g c : Int} (l2 : wn.length = 20) (hc : 0 ≤ c ∧ c < 20) (hg : 1 ≤ g ∧ g ≤ 3) (h : ∀ d, 0 ≤ d → d < 20 → lowP (cumP wk be g c d) (gI wn d)) : ∀ d, 0 ≤ d → d < 20 → lowP (cumP wk be g (c + 1) d) (gI (mWs wk be g c wn) d) := by
  intro d d0 d1
  have hd := h d d0 d1
  unfold mWs
  by_cases q : gI wk c < 10000
  · rw [if_pos q]
    unfold mWo
    by_cases e : c = 19
    · subst e
      rw [if_pos rfl]
      by_cases f : d = 19
      · subst f
        rw [gI_s (by omega) (by omega)]
        refine lowP_one hd (fun x => ?_)
        rw [cumP_s (by omega)]
        refine or_congr_right ⟨fun z => ?_, fun z => ⟨q, Or.inl ⟨rfl, rfl, z⟩⟩⟩
        obtain ⟨-, z | z | z⟩ := z
        · exact z.2.2
        · omega
        · omega
      · rw [gI_n (by omega) d0 (by omega)]
        refine lowP_c hd (fun x => ?_)
        rw [cumP_s (by omega)]
        refine ⟨fun z => z.elim id (fun z => ?_), Or.inl⟩
        obtain ⟨-, z | z | z⟩ := z <;> omega
    · rw [if_neg e]
      have t0 : c + 1 ≤ mn 19 (c + g) ∧ mn 19 (c + g) ≤ 19 := by
        unfold mn
        split <;> omega
      have lp : (mWp wk wn be c).length = 20 := len_s.trans l2
      have h1 : lowP (fun x => cumP wk be g c d x ∨ (d = c + 1 ∧ x = gI wk c + gI be d)) (gI (mWp wk wn be c) d) := by
        unfold mWp
        by_cases f : d = c + 1
        · rw [← f, gI_s (by omega) (by omega)]
          exact lowP_one hd (fun x => or_congr_right ⟨fun z => z.2, fun z => ⟨rfl, z⟩⟩)
        · rw [gI_n (by omega) d0 (by omega)]
          exact lowP_c hd (fun x => ⟨fun z => z.elim id (fun z => absurd z.1 f), Or.inl⟩)
      have h2 : lowP (fun x => (cumP wk be g c d x ∨ (d = c + 1 ∧ x = gI wk c + gI be d)) ∨ (d = mn 19 (c + g) ∧ x = gI wk c)) (gI (sI (mWp wk wn be c) (mn 19 (c + g)) (if gI wk c < gI (mWp wk wn be c) (mn 19 (c + g)) then gI wk c else gI (mWp wk wn be c) (mn 19 (c + g)))) d) := by
        by_cases f : d = mn 19 (c + g)
        · rw [← f, gI_s (by omega) (by omega)]
          exact lowP_one h1 (fun x => or_congr_right ⟨fun z => z.2, fun z => ⟨rfl, z⟩⟩)
        · rw [gI_n (by omega) d0 (fun z => f z.symm)]
          exact lowP_c h1 (fun x => ⟨fun z => z.elim id (fun z => absurd z.1 f), Or.inl⟩)
      refine lowP_c h2 (fun x => ?_)
      rw [cumP_s (by omega)]
      constructor
      · rintro (z | ⟨-, z | z | z⟩)
        · exact Or.inl (Or.inl z)
        · exact absurd z.1 e
        · exact Or.inl (Or.inr z.2)
        · exact Or.inr z.2
      · rintro ((z | z) | z)
        · exact Or.inl z
        · exact Or.inr ⟨q, Or.inr (Or.inl ⟨by omega, z⟩)⟩
        · exact Or.inr ⟨q, Or.inr (Or.inr ⟨by omega, z⟩)⟩
  · rw [if_neg q]
    refine lowP_c hd (fun x => ?_)
    rw [cumP_s (by omega)]
    exact ⟨fun z => z.elim id (fun z => absurd z.1 q), Or.inl⟩
/-! the class's own: backward -/
