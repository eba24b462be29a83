/-! part:mcomesh -/
set_option maxRecDepth 20000 in set_option maxHeartbeats 8000000 in
theorem p_X6_comes {Y : Nat → Nat} {G : Gal} {rf tp le la td wk wn cs rw kp : List Int} {tn rd st hi wg rn lo kk cu k a : Int} {Post : pR} {vs : List Int} {sz : Int} (hz : 0 ≤ sz ∧ sz ≤ 96) (hv : vs.length = 96) (hb : bnd 0 255 vs) (h2 : 0 ≤ wg ∧ wg ≤ 3) (hG : invG G) (hzr : zrG G) (ht : gMi G ≤ 2000) (hk : 0 ≤ k ∧ k < 48) (ha : 0 ≤ a ∧ a ≤ 200) (hl1 : le.length = 48) (hl : td.length = 192) (hle : gI le k = atN vs sz a) (hz1 : ¬ szK (atN vs sz a) < 1) (hf : fineP vs sz a) (htd : toldP vs sz td (4 * k) a) (h : rightP vs sz a (gPc G) (gMi G) → Post (some (vI 1)) (mG Y (comeG vs sz a G) 0 0 wg kp kk cu tp le la td tn rd st hi rw rn lo rf wk wn cs)) (h0 : ¬ rightP vs sz a (gPc G) (gMi G) → Post (some (vI 0)) (mG Y G 0 0 wg kp kk cu tp le la td tn rd st hi rw rn lo rf wk wn cs)) : tX6_comes [vR (Y 0), vI k] (mG Y G 0 0 wg kp kk cu tp le la td tn rd st hi rw rn lo rf wk wn cs) Post := by
  by_cases qa : atN vs sz a = 97
  · exact p_X6_comes_a hz hv hb qa h2 hG hzr ht hk ha hl1 hl hle hz1 hf htd h h0
  by_cases qb : atN vs sz a = 98
  · exact p_X6_comes_b hz hv hb qb h2 hG hzr ht hk ha hl1 hl hle hz1 hf htd h h0
  by_cases qm : atN vs sz a = 109
  · exact p_X6_comes_m hz hv hb qm h2 hG hzr ht hk ha hl1 hl hle hz1 hf htd h h0
  by_cases qp : atN vs sz a = 112
  · exact p_X6_comes_p hz hv hb qp h2 hG hzr ht hk ha hl1 hl hle hz1 hf htd h h0
  by_cases qt : atN vs sz a = 116
  · exact p_X6_comes_t hz hv hb qt h2 hG hzr ht hk ha hl1 hl hle hz1 hf htd h h0
  by_cases qx : atN vs sz a = 120
  · exact p_X6_comes_x hz hv hb qx h2 hG hzr ht hk ha hl1 hl hle hz1 hf htd h h0
  · exfalso
    apply hz1
    unfold szK
    rw [if_neg qa, if_neg qb, if_neg qm, if_neg qp, if_neg qt, if_neg qx]
    omega

theorem p_X6_comes_y {Y : Nat → Nat} {G : Gal} {rf tp le la td wk wn cs rw kp : List Int} {tn rd st hi wg rn lo kk cu k a : Int} {Post : pR} {vs : List Int} {sz : Int} (hz : 0 ≤ sz ∧ sz ≤ 96) (hv : vs.length = 96) (hb : bnd 0 255 vs) (h2 : 0 ≤ wg ∧ wg ≤ 3) (hG : invG G) (hzr : zrG G) (ht : gMi G ≤ 2000) (hk : 0 ≤ k ∧ k < 48) (ha : 0 ≤ a ∧ a ≤ 200) (hl1 : le.length = 48) (hl : td.length = 192) (hle : gI le k = atN vs sz a) (hz1 : ¬ szK (atN vs sz a) < 1) (hf : fineP vs sz a) (htd : toldP vs sz td (4 * k) a) (hr : rightP vs sz a (gPc G) (gMi G)) (h : Post (some (vI 1)) (mG Y (comeG vs sz a G) 0 0 wg kp kk cu tp le la td tn rd st hi rw rn lo rf wk wn cs)) : tX6_comes [vR (Y 0), vI k] (mG Y G 0 0 wg kp kk cu tp le la td tn rd st hi rw rn lo rf wk wn cs) Post := p_X6_comes hz hv hb h2 hG hzr ht hk ha hl1 hl hle hz1 hf htd (fun _ => h) (fun z => absurd hr z)
theorem p_X6_comes_n {Y : Nat → Nat} {G : Gal} {rf tp le la td wk wn cs rw kp : List Int} {tn rd st hi wg rn lo kk cu k a : Int} {Post : pR} {vs : List Int} {sz : Int} (hz : 0 ≤ sz ∧ sz ≤ 96) (hv : vs.length = 96) (hb : bnd 0 255 vs) (h2 : 0 ≤ wg ∧ wg ≤ 3) (hG : invG G) (hzr : zrG G) (ht : gMi G ≤ 2000) (hk : 0 ≤ k ∧ k < 48) (ha : 0 ≤ a ∧ a ≤ 200) (hl1 : le.length = 48) (hl : td.length = 192) (hle : gI le k = atN vs sz a) (hz1 : ¬ szK (atN vs sz a) < 1) (hf : fineP vs sz a) (htd : toldP vs sz td (4 * k) a) (hr : ¬ rightP vs sz a (gPc G) (gMi G)) (h : Post (some (vI 0)) (mG Y G 0 0 wg kp kk cu tp le la td tn rd st hi rw rn lo rf wk wn cs)) : tX6_comes [vR (Y 0), vI k] (mG Y G 0 0 wg kp kk cu tp le la td tn rd st hi rw rn lo rf wk wn cs) Post := p_X6_comes hz hv hb h2 hG hzr ht hk ha hl1 hl hle hz1 hf htd (fun z => absurd z hr) (fun _ => h)
