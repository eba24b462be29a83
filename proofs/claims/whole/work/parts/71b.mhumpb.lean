/-! part:mhumpb -/
theorem lowC {P Q : Int → Prop} {v b : Int} (h : lowP P (upI b)) (hv : v = -9 ∨ (0 ≤ v ∧ v < 10000)) (e : ∀ x, Q x ↔ P x ∨ (¬ v = -9 ∧ x = v)) : lowP Q (upI (if soonB v b then v else b)) := by
  by_cases c : v = -9
  · have e1 : soonB v b = false := by
      unfold soonB
      simp [c]
    rw [e1]
    exact lowP_c h (fun x => by rw [e x]; exact ⟨fun z => z.elim id (fun z => absurd c z.1), Or.inl⟩)
  · have e1 : upI (if soonB v b then v else b) = if v < upI b then v else upI b := by
      by_cases d : b = -9
      · have e2 : soonB v b = true := by
          unfold soonB
          simp [c, d]
        have e3 : upI b = 10000 := if_pos d
        have e4 : v < 10000 := by omega
        rw [e2, e3, if_pos rfl, if_pos e4]
        exact if_neg c
      · have e3 : upI b = b := if_neg d
        rw [e3]
        by_cases f : v < b
        · have e2 : soonB v b = true := by
            unfold soonB
            simp [c, f]
          rw [e2, if_pos rfl, if_pos f]
          exact if_neg c
        · have e2 : soonB v b = false := by
            unfold soonB
            simp [d, f]
          rw [e2, if_neg (by decide), if_neg f]
          exact if_neg d
    rw [e1]
    exact lowP_one h (fun x => by rw [e x]; exact or_congr_right ⟨fun z => z.2, fun z => ⟨c, z⟩⟩)
theorem lowL {fw : List Int} {c : Int} (hv : ∀ d, atF fw d = -9 ∨ (0 ≤ atF fw d ∧ atF fw d < 10000)) : ∀ (k : Nat) (far b : Int) (P : Int → Prop), lowP P (upI b) → lowP (fun x => P x ∨ ∃ f, far ≤ f ∧ f < far + k ∧ ¬ atF fw (c - f) = -9 ∧ x = atF fw (c - f)) (upI (loopF (humP fw c) k far b))
  | 0, far, b, P, h => lowP_c h (fun x => ⟨fun z => z.elim id (fun ⟨f, z1, z2, _⟩ => by omega), Or.inl⟩)
  | k + 1, far, b, P, h => by
    have h1 : lowP (fun x => P x ∨ (¬ atF fw (c - far) = -9 ∧ x = atF fw (c - far))) (upI (humP fw c far b)) := lowC h (hv _) (fun x => Iff.rfl)
    refine lowP_c (lowL hv k (far + 1) _ _ h1) (fun x => ?_)
    constructor
    · rintro (z | ⟨f, z1, z2, z3⟩)
      · exact Or.inl (Or.inl z)
      · by_cases e : f = far
        · subst e
          exact Or.inl (Or.inr z3)
        · exact Or.inr ⟨f, by omega, by omega, z3⟩
    · rintro ((z | z) | ⟨f, z1, z2, z3⟩)
      · exact Or.inl z
      · exact Or.inr ⟨far, by omega, by omega, z⟩
      · exact Or.inr ⟨f, by omega, by omega, z3⟩
theorem atF_e {fw : List Int} {d : Int} (h : 0 ≤ d ∧ d < 20) : atF fw d = gI fw d := if_pos h
theorem atF_o {fw : List Int} {d : Int} (h : ¬ (0 ≤ d ∧ d < 20)) : atF fw d = -9 := if_neg h
/-- the lists of both sides tell the same -/
def relH (B : Int) (fw wk : List Int) : Prop := ∀ d, 0 ≤ d → d < 20 → gI wk d = upI (gI fw d) ∧ (gI fw d = -9 ∨ (0 ≤ gI fw d ∧ gI fw d ≤ B))
theorem humB_low {N : Gal} {B g c : Int} {fw wk : List Int} (hN : invG N) (hB : 0 ≤ B ∧ B ≤ 9000) (hr : relH B fw wk) (hg : 1 ≤ g ∧ g ≤ 3) (hc : 0 ≤ c ∧ c < 20) : lowP (cumP wk (gBe N) g 20 c) (upI (humB N g fw c)) := by
  have hv : ∀ d, atF fw d = -9 ∨ (0 ≤ atF fw d ∧ atF fw d < 10000) := by
    intro d
    by_cases q : 0 ≤ d ∧ d < 20
    · rw [atF_e q]
      have := (hr d q.1 q.2).2
      omega
    · exact Or.inl (atF_o q)
  have hbe := bnd_g hN.2.2.2.2.2.2.1 (i := c) hc.1 (by rw [hN.1]; omega)
  have hz : lowP (fun x => c = 19 ∧ ¬ atF fw 19 = -9 ∧ x = atF fw 19) (upI (humZ fw c)) := by
    unfold humZ
    by_cases e : c = 19
    · rw [if_pos e]
      by_cases f : atF fw 19 = -9
      · exact ⟨fun x z => absurd f z.2.1, Or.inl (if_pos f)⟩
      · have e2 : upI (atF fw 19) = atF fw 19 := if_neg f
        rw [e2]
        exact ⟨fun x z => by rw [z.2.2]; omega, Or.inr ⟨e, f, rfl⟩⟩
    · rw [if_neg e]
      exact ⟨fun x z => absurd z.1 e, Or.inl (if_pos rfl)⟩
  have ht : humT N fw c = -9 ∨ (0 ≤ humT N fw c ∧ humT N fw c < 10000) := by
    unfold humT
    have h1 := hv (c - 1)
    split
    · exact Or.inl rfl
    · next q =>
      have h3 : atF fw (c - 1) ≤ 9000 := by
        by_cases q2 : 0 ≤ c - 1 ∧ c - 1 < 20
        · rw [atF_e q2]
          have := (hr (c - 1) q2.1 q2.2).2
          omega
        · exact absurd (atF_o q2) q
      right
      omega
  have h1 : lowP (fun x => (c = 19 ∧ ¬ atF fw 19 = -9 ∧ x = atF fw 19) ∨ (¬ humT N fw c = -9 ∧ x = humT N fw c)) (upI (humQ (humT N fw c) (humZ fw c))) := lowC hz ht (fun x => Iff.rfl)
  have h2 := lowL (c := c) hv (g + 1 - humR g c).toNat (humR g c) _ _ h1
  refine lowP_c h2 (fun x => ?_)
  have hR : (c = 19 → humR g c = 1) ∧ (¬ c = 19 → humR g c = g) := ⟨fun z => if_pos z, fun z => if_neg z⟩
  have up : ∀ d, 0 ≤ d → d < 20 → gI wk d < 10000 → ¬ atF fw d = -9 ∧ gI wk d = atF fw d := by
    intro d d0 d1 d2
    have := (hr d d0 d1).1
    rw [atF_e ⟨d0, d1⟩]
    unfold upI at this
    split at this
    · omega
    · next q => exact ⟨q, this⟩
  have dn : ∀ d, ¬ atF fw d = -9 → (0 ≤ d ∧ d < 20) ∧ gI wk d < 10000 ∧ gI wk d = atF fw d := by
    intro d hd
    by_cases q : 0 ≤ d ∧ d < 20
    · have h3 := hr d q.1 q.2
      rw [atF_e q] at hd ⊢
      have e := h3.1
      unfold upI at e
      rw [if_neg hd] at e
      have := h3.2
      exact ⟨q, by omega, e⟩
    · exact absurd (atF_o q) hd
  constructor
  · rintro ⟨s, s0, s1, sq, z | z | z⟩
    · obtain ⟨rfl, z2, z3⟩ := z
      obtain ⟨u1, u2⟩ := up 19 s0 s1 sq
      exact Or.inl (Or.inl ⟨z2, u1, by rw [z3, u2]⟩)
    · obtain ⟨u1, u2⟩ := up s s0 s1 sq
      have e : c - 1 = s := by omega
      have et : humT N fw c = atF fw s + gI (gBe N) c := by
        unfold humT
        rw [e, if_neg u1]
      refine Or.inl (Or.inr ?_)
      rw [et, ← u2]
      have := hv s
      exact ⟨by omega, z.2.2⟩
    · obtain ⟨u1, u2⟩ := up s s0 s1 sq
      have e : c - (c - s) = s := by omega
      refine Or.inr ⟨c - s, ?_, ?_, by rw [e]; exact u1, by rw [e, ← u2]; exact z.2.2⟩
      · have hm := z.2.1
        unfold mn at hm
        by_cases q : c = 19
        · rw [hR.1 q]
          omega
        · rw [hR.2 q]
          split at hm <;> omega
      · have hm := z.2.1
        unfold mn at hm
        by_cases q : c = 19
        · rw [hR.1 q]
          split at hm <;> omega
        · rw [hR.2 q]
          split at hm <;> omega
  · rintro ((z | z) | ⟨f, z1, z2, z3, z4⟩)
    · obtain ⟨d1, d2, d3⟩ := dn 19 z.2.1
      exact ⟨19, by omega, by omega, d2, Or.inl ⟨rfl, z.1, by rw [d3]; exact z.2.2⟩⟩
    · obtain ⟨z1, z2⟩ := z
      have hq : ¬ atF fw (c - 1) = -9 := by
        intro q
        apply z1
        unfold humT
        rw [if_pos q]
      have et : humT N fw c = atF fw (c - 1) + gI (gBe N) c := by
        unfold humT
        rw [if_neg hq]
      obtain ⟨d1, d2, d3⟩ := dn (c - 1) hq
      exact ⟨c - 1, d1.1, by omega, d2, Or.inr (Or.inl ⟨by omega, by omega, by rw [z2, et, d3]⟩)⟩
    · obtain ⟨d1, d2, d3⟩ := dn (c - f) z3
      have hf : 1 ≤ f ∧ f ≤ g := by
        by_cases q : c = 19
        · rw [hR.1 q] at z1 z2
          omega
        · rw [hR.2 q] at z1 z2
          omega
      refine ⟨c - f, d1.1, d1.2, d2, Or.inr (Or.inr ⟨by omega, ?_, by rw [z4, d3]⟩)⟩
      unfold mn
      by_cases q : c = 19
      · split <;> omega
      · have : f = g := by
          rw [hR.2 q] at z1
          omega
        split <;> omega
theorem atF_g {fw fv : List Int} {c : Int} (h : ∀ d, 0 ≤ d → d ≤ c → gI fw d = gI fv d) {d : Int} (hd : d ≤ c) : atF fw d = atF fv d := by
  unfold atF
  by_cases q : 0 ≤ d ∧ d < 20
  · rw [if_pos q, if_pos q, h d q.1 hd]
  · rw [if_neg q, if_neg q]
theorem humP_g {fw fv : List Int} {c : Int} (h : ∀ d, 0 ≤ d → d ≤ c → gI fw d = gI fv d) : ∀ (k : Nat) (far b : Int), 0 ≤ far → loopF (humP fw c) k far b = loopF (humP fv c) k far b
  | 0, _, _, _ => rfl
  | k + 1, far, b, hf => by
    have e : humP fw c far b = humP fv c far b := by
      unfold humP
      rw [atF_g h (by omega)]
    show loopF (humP fw c) k (far + 1) (humP fw c far b) = loopF (humP fv c) k (far + 1) (humP fv c far b)
    rw [e]
    exact humP_g h k (far + 1) _ (by omega)
theorem humB_g {N : Gal} {g c : Int} {fw fv : List Int} (hg : 1 ≤ g ∧ g ≤ 3) (hc : 0 ≤ c ∧ c < 20) (h : ∀ d, 0 ≤ d → d ≤ c → gI fw d = gI fv d) : humB N g fw c = humB N g fv c := by
  have hR : 0 ≤ humR g c := by
    unfold humR
    split <;> omega
  have e1 : humT N fw c = humT N fv c := by
    unfold humT
    rw [atF_g h (by omega)]
  have e2 : humZ fw c = humZ fv c := by
    unfold humZ
    by_cases q : c = 19
    · rw [if_pos q, if_pos q, atF_g h (by omega)]
    · rw [if_neg q, if_neg q]
  unfold humB
  rw [e1, e2]
  exact humP_g h _ _ _ hR
theorem humS_get {N : Gal} {g : Int} (hg : 1 ≤ g ∧ g ≤ 3) (fw : List Int) : ∀ (k : Nat) (j : Int) (fv : List Int), fv.length = 20 → 0 ≤ j → j + k = 20 → (∀ d, 0 ≤ d → d ≤ 19 - j → gI fv d = gI fw d) → (∀ d, 19 - j < d → d < 20 → gI fv d = humB N g fw d) → ∀ d, 0 ≤ d → d < 20 → gI (loopF (humS N g) k j fv) d = humB N g fw d
  | 0, j, fv, _, h0, h1, _, h3, d, d0, d1 => h3 d (by omega) d1
  | k + 1, j, fv, hl, h0, h1, h2, h3, d, d0, d1 => by
    have eB : humB N g fv (19 - j) = humB N g fw (19 - j) := humB_g hg (by omega) (fun d z0 z1 => h2 d z0 (by omega))
    refine humS_get hg fw k (j + 1) (humS N g j fv) (len_s.trans hl) (by omega) (by omega) (fun d z0 z1 => ?_) (fun d z0 z1 => ?_) d d0 d1
    · unfold humS
      rw [gI_n (by omega) z0 (by omega)]
      exact h2 d z0 (by omega)
    · unfold humS
      by_cases e : d = 19 - j
      · rw [e, gI_s (by omega) (by omega)]
        exact eB
      · rw [gI_n (by omega) (by omega) (fun z => e z.symm)]
        exact h3 d (by omega) z1
/-- one minute: both tell the same behind it -/
theorem relH_st {N : Gal} {B g : Int} {fw wk wq : List Int} (hN : invG N) (hB : 0 ≤ B ∧ B ≤ 8000) (hl : fw.length = 20) (hr : relH B fw wk) (hg : 1 ≤ g ∧ g ≤ 3) (hw : ∀ d, 0 ≤ d → d < 20 → lowP (cumP wk (gBe N) g 20 d) (gI wq d)) : relH (B + 60) (loopF (humS N g) 20 0 fw) wq := by
  intro d d0 d1
  have hb : bnd (-9) B fw := by
    intro x hx
    obtain ⟨i, hi, rfl⟩ := List.getElem_of_mem hx
    have h1 := (hr (i : Int) (by omega) (by omega)).2
    have e : gI fw (i : Int) = fw[i] := by
      unfold gI
      rw [Int.toNat_natCast, List.getD_eq_getElem?_getD, List.getElem?_eq_getElem hi]
      rfl
    rw [e] at h1
    omega
  have e : gI (loopF (humS N g) 20 0 fw) d = humB N g fw d := humS_get hg fw 20 0 fw hl (by omega) (by omega) (fun d _ _ => rfl) (fun d z0 z1 => by omega) d d0 d1
  have hI := (humB_in (goes := g) hN (by omega) hl hb ⟨d0, d1⟩).2.2
  have h1 := humB_low hN ⟨hB.1, by omega⟩ hr hg ⟨d0, d1⟩
  have hcum : ∀ x, cumP wk (gBe N) g 20 d x → 0 ≤ x ∧ x < 10000 := by
    rintro x ⟨s, s0, s1, sq, z⟩
    have h3 := hr s s0 s1
    have h4 : 0 ≤ gI wk s ∧ gI wk s ≤ B := by
      have e3 := h3.1
      unfold upI at e3
      split at e3 <;> omega
    have hbe := bnd_g hN.2.2.2.2.2.2.1 (i := d) d0 (by rw [hN.1]; omega)
    rcases z with z | z | z <;> omega
  have h2 := lowP_u (hw d d0 d1) h1 (fun x z => (hcum x z).2)
  rw [e]
  refine ⟨h2, ?_⟩
  by_cases q : humB N g fw d = -9
  · exact Or.inl q
  · right
    have e3 : upI (humB N g fw d) = humB N g fw d := if_neg q
    rw [e3] at h1
    rcases h1.2 with z | z
    · omega
    · have := hcum _ z
      omega
