/-! ===== calls, and the contract of a method out of its blocks ===== -/
def sub (σ : pS) (φ : List Nat) : pS := φ.filterMap (fun i => σ[i]?)
def joi : pS → List Nat → pS → pS
  | σ, i :: φ, c :: u => joi (σ.set i c) φ u
  | σ, _, _ => σ
def psh : Option pV → List pV → List pV
  | some v, st => v :: st
  | none, st => st
/-- every place of φ is one of σ -/
def inr : List Nat → pS → Prop
  | [], _ => True
  | i :: φ, σ => i < σ.length ∧ inr φ σ
theorem inr_len {σ σ' : pS} (h : σ.length = σ'.length) : ∀ (φ : List Nat), inr φ σ → inr φ σ'
  | [], _ => trivial
  | _ :: φ, hi => ⟨h ▸ hi.1, inr_len h φ hi.2⟩
theorem sub_cons {σ : pS} {i : Nat} {φ : List Nat} {c : Nat × pC} (h : σ[i]? = some c) : sub σ (i :: φ) = c :: sub σ φ := by
  unfold sub
  rw [List.filterMap_cons, h]
theorem sub_get {σ : pS} : ∀ (φ : List Nat), inr φ σ → ∀ (j i : Nat), φ[j]? = some i → (sub σ φ)[j]? = σ[i]?
  | [], _, j, i, h => by simp at h
  | k :: φ, hi, j, i, h => by
    obtain ⟨c, hc⟩ : ∃ c, σ[k]? = some c := ⟨_, List.getElem?_eq_getElem hi.1⟩
    rw [sub_cons hc]
    cases j with
    | zero => simp at h; subst h; simpa using hc.symm
    | succ j => simp at h; simpa using sub_get φ hi.2 j i h
theorem sub_mem {σ : pS} : ∀ (φ : List Nat) (j : Nat) (x : Nat × pC), (sub σ φ)[j]? = some x → ∃ i ∈ φ, σ[i]? = some x := by
  intro φ j x h
  obtain ⟨i, hi, h2⟩ := List.mem_filterMap.mp (List.mem_of_getElem? h)
  exact ⟨i, hi, h2⟩
theorem set_fst {σ : pS} {i : Nat} {c d : Nat × pC} (h : σ[i]? = some c) (he : d.1 = c.1) : (σ.set i d).map Prod.fst = σ.map Prod.fst := by
  obtain ⟨a, x⟩ := c
  obtain ⟨b, y⟩ := d
  dsimp only at he
  subst he
  exact map_fst_set h
theorem sub_fst {σ σ' : pS} (h : σ.map Prod.fst = σ'.map Prod.fst) : ∀ (φ : List Nat), (sub σ φ).map Prod.fst = (sub σ' φ).map Prod.fst
  | [] => rfl
  | i :: φ => by
    have h1 : (σ[i]?).map Prod.fst = (σ'[i]?).map Prod.fst := by rw [← List.getElem?_map, h, List.getElem?_map]
    unfold sub
    rw [List.filterMap_cons, List.filterMap_cons]
    cases e1 : σ[i]? with
    | none =>
      cases e2 : σ'[i]? with
      | none => exact sub_fst h φ
      | some y => rw [e1, e2] at h1; cases h1
    | some x =>
      cases e2 : σ'[i]? with
      | none => rw [e1, e2] at h1; cases h1
      | some y =>
        rw [e1, e2] at h1
        have h2 : x.1 = y.1 := Option.some.inj h1
        show x.1 :: (sub σ φ).map Prod.fst = y.1 :: (sub σ' φ).map Prod.fst
        rw [h2, sub_fst h φ]
theorem joi_fst : ∀ (φ : List Nat) (σ u : pS), inr φ σ → u.map Prod.fst = (sub σ φ).map Prod.fst → (joi σ φ u).map Prod.fst = σ.map Prod.fst
  | [], σ, u, _, _ => by cases u <;> rfl
  | i :: φ, σ, [], hi, h => rfl
  | i :: φ, σ, d :: u, hi, h => by
    obtain ⟨c, hc⟩ : ∃ c, σ[i]? = some c := ⟨_, List.getElem?_eq_getElem hi.1⟩
    rw [sub_cons hc] at h
    simp only [List.map_cons, List.cons.injEq] at h
    have h1 := set_fst hc h.1
    unfold joi
    rw [joi_fst φ (σ.set i d) u (inr_len (by simp) φ hi.2) (by rw [h.2]; exact (sub_fst h1 φ).symm), h1]
theorem joi_get : ∀ (φ : List Nat) (σ u : pS) (k : Nat) (x : Nat × pC), φ.length = u.length → (joi σ φ u)[k]? = some x → (k ∉ φ ∧ σ[k]? = some x) ∨ ∃ j : Nat, φ[j]? = some k ∧ u[j]? = some x
  | [], σ, u, k, x, _, h => by
    left
    cases u <;> exact ⟨by simp, h⟩
  | i :: φ, σ, [], k, x, hl, h => by simp at hl
  | i :: φ, σ, d :: u, k, x, hl, h => by
    unfold joi at h
    rcases joi_get φ (σ.set i d) u k x (by simpa using hl) h with ⟨h1, h2⟩ | ⟨j, h1, h2⟩
    · by_cases e : i = k
      · subst e
        right
        refine ⟨0, rfl, ?_⟩
        have hi : i < σ.length := by
          have := (List.getElem?_eq_some_iff.mp h2).1
          simpa using this
        rw [List.getElem?_set_self hi] at h2
        simpa using h2
      · left
        rw [List.getElem?_set_ne e] at h2
        exact ⟨by simp; exact ⟨fun q => e q.symm, h1⟩, h2⟩
    · right
      exact ⟨j + 1, by simpa using h1, by simpa using h2⟩
theorem sub_length {σ : pS} : ∀ (φ : List Nat), inr φ σ → (sub σ φ).length = φ.length
  | [], _ => rfl
  | i :: φ, hi => by
    obtain ⟨c, hc⟩ : ∃ c, σ[i]? = some c := ⟨_, List.getElem?_eq_getElem hi.1⟩
    rw [sub_cons hc, List.length_cons, List.length_cons, sub_length φ hi.2]
theorem va_A_sub {A : Nat → Prop} {cA : ClassId} {σ : pS} {φ : List Nat} {H0 H : Heap} {locs : List Loc} (hD : va_D A (mw cA σ)) (hS : va_S A H0 H locs) (hA : ∀ q, H0.size ≤ q → A q) : ∀ q, va_A (mw cA (sub σ φ)) H.size q → A q := by
  intro q h
  rcases h with ⟨k, e, h⟩ | h
  · rw [mw, List.getElem?_map] at h
    cases h1 : (sub σ φ)[k]? with
    | none => rw [h1] at h; cases h
    | some x =>
      rw [h1] at h
      have h2 := Option.some.inj h
      obtain ⟨i, hi, h3⟩ := sub_mem φ k x h1
      have h4 := hD.2 i _ (mw_get (cA := cA) (a := x.1) (x := x.2) h3)
      rw [← (Prod.mk.inj h2).1]
      exact h4
  · exact hA q (Nat.le_trans hS.1 h)
theorem joi_P {D : va_G} {cA : ClassId} {A : Nat → Prop} {σ u : pS} {φ : List Nat} {H H1 : Heap} (hP : va_P D vwCl (mw cA σ) H) (hD : va_D A (mw cA σ)) (hi : inr φ σ) (hu : u.map Prod.fst = (sub σ φ).map Prod.fst) (hP1 : va_P D vwCl (mw cA u) H1)
    (hk : ∀ q : Nat, q < H.size → ¬ va_A (mw cA (sub σ φ)) H.size q → H1[q]? = H[q]?) : va_P D vwCl (mw cA (joi σ φ u)) H1 := by
  intro k q hq
  rw [mw, List.getElem?_map] at hq
  cases h1 : (joi σ φ u)[k]? with
  | none => rw [h1] at hq; cases hq
  | some x =>
    rw [h1] at hq
    have hq' := Option.some.inj hq
    subst hq'
    have hlen : φ.length = u.length := by
      have := congrArg List.length hu
      rw [List.length_map, List.length_map, sub_length φ hi] at this
      exact this.symm
    rcases joi_get φ σ u k x hlen h1 with ⟨h2, h3⟩ | ⟨j, h2, h3⟩
    · have h4 := hP k _ (mw_get (cA := cA) (a := x.1) (x := x.2) h3)
      refine h4.kept (hk x.1 h4.lt ?_)
      intro h5
      rcases h5 with ⟨j, e, h5⟩ | h5
      · rw [mw, List.getElem?_map] at h5
        cases h6 : (sub σ φ)[j]? with
        | none => rw [h6] at h5; cases h5
        | some y =>
          rw [h6] at h5
          obtain ⟨i, hi2, h7⟩ := sub_mem φ j y h6
          have h8 : y.1 = x.1 := (Prod.mk.inj (Option.some.inj h5)).1
          have h9 := hD.1 i k _ _ (mw_get (cA := cA) (a := y.1) (x := y.2) h7) (mw_get (cA := cA) (a := x.1) (x := x.2) h3) h8
          exact h2 (h9 ▸ hi2)
      · have := h4.lt
        dsimp only at this
        omega
    · exact hP1 j _ (mw_get (cA := cA) (a := x.1) (x := x.2) h3)
section MYC
variable {p : Program} {l : Launch} {e : Env} {R : Room} {s : State} {m : MethodId} {args : Array Value} {below : List Frame} {meth : Method} {c : Code} {H : Heap} {locs : List Loc} {Q : State → Prop}
theorem my_call {D : va_G} {cA : ClassId} {as : List Nat} {A0 A1 : Nat → Prop} {Post : pR} {pc : Nat} {ls : Array Slot} {rest st0 : List Value} {a : Array Value} {H0 : Heap} {free : Addr → Prop} (hr : va_Run p l e R s m args below meth c H locs 0 0 0 0 (F0 m pc ls st0) rest (pQ D cA as A1 Post a) free) (hS : va_S A0 H0 H locs) (hA : ∀ q, q < H.size → A1 q → A0 q) (hf : ∀ q, free q → A0 q)
    (kk : ∀ (r : Option pV) (u : pS) (H1 : Heap) (locs1 : List Loc), Post r u → u.map Prod.fst = as → va_P D vwCl (mw cA u) H1 → (∀ q : Nat, q < H.size → ¬ A1 q → H1[q]? = H[q]?) → va_S A0 H0 H1 locs1 → W p l e R s m args below meth c H1 locs1 0 0 Q (F0 m (pc + 3) ls ((r.map mv).toList ++ rest))) : W p l e R s m args below meth c H locs 0 0 Q (F0 m pc ls st0) := by
  intro T hT X
  obtain ⟨v, st₀, t, T', L, h0, X', hL, e1, e2, ⟨⟨r, u, hv, hp, ha, hb⟩, hz, hk⟩, st⟩ := hr T hT X
  have hv2 : v = r.map mv := by cases hv; rfl
  subst hv2
  rw [h0] at hz hk
  obtain ⟨t2, a1, b1⟩ := kk r u T'.heap (locs ++ L) hp ha (by rw [e1]; exact hb) (fun q h1 h2 => by rw [e1]; exact hk q h1 h2)
    ⟨Nat.le_trans hS.1 (by rw [e1]; exact hz), fun q h1 h2 => by rw [e1, hk q (Nat.lt_of_lt_of_le h1 hS.1) (fun z => h2 (hA q (Nat.lt_of_lt_of_le h1 hS.1) z))]; exact hS.2.1 q h1 h2, fun q hq => by
      rcases List.mem_append.mp hq with h | h
      · exact hS.2.2 q h
      · exact hf _ (hL q h)⟩ T' rfl X'
  exact ⟨t2, st t2 a1, b1⟩
end MYC
theorem psh_mv (r : Option pV) (st : List pV) : (r.map mv).toList ++ st.map mv = (psh r st).map mv := by cases r <;> rfl
def rcv (ci : Nat) : List pV → pS → Prop
  | .inr (.inr b) :: _, (a, .inr o) :: _ => b = a ∧ o.1 = ci
  | _, _ => False
def a_callv (nA ci : Nat) (φ : List Nat) (T : pT) : pAct := fun L st σ nx J Post => nA ≤ st.length ∧ (st.drop nA).length ≤ 4 ∧ inr φ σ ∧ rcv ci (st.take nA).reverse (sub σ φ) ∧ T (st.take nA).reverse (sub σ φ) (fun r u => nx L (psh r (st.drop nA)) (joi σ φ u))
def a_calls (nA : Nat) (φ : List Nat) (T : pT) : pAct := fun L st σ nx J Post => nA ≤ st.length ∧ (st.drop nA).length ≤ 4 ∧ inr φ σ ∧ T (st.take nA).reverse (sub σ φ) (fun r u => nx L (psh r (st.drop nA)) (joi σ φ u))
theorem cat_sum : ∀ (st : List pV) (n : Nat), st.length ≤ n → ((st.map mv).map fun v => v.category).sum ≤ 2 * n
  | [], _, _ => Nat.zero_le _
  | v :: st, n, h => by
    simp only [List.map_cons, List.sum_cons]
    have h1 := cat_sum st (n - 1) (by simp at h; omega)
    have h2 : (mv v).category ≤ 2 := by rcases lv_cat (mv v) with h | h <;> omega
    simp at h
    omega
theorem fb_ok {D : va_G} {cA : ClassId} {vs : List pV} {σ : pS} {sz : Nat} : FrameBlind (va_Pc (vs.map mv) (fun U => U.heap.size = sz ∧ va_P D vwCl (mw cA σ) U.heap ∧ va_K D vwCl [(cA, .int)] U ∧ va_D (fun _ => True) (mw cA σ) ∧ pNw U)) := by
  intro a U g mk q
  obtain ⟨q0, q1, qP, qK, qD, qN⟩ := q
  exact ⟨q0, q1, qP, va_K.moved (u := U) (U := U.calling g mk a) (Vm.Alike.refl U.vm) qK, qD, pNw.same (u := U) (U := U.calling g mk a) rfl qN⟩
theorem sub_D {D : va_G} {cA : ClassId} {A : Nat → Prop} {σ : pS} {H : Heap} {φ : List Nat} (hP : va_P D vwCl (mw cA σ) H) (hD : va_D A (mw cA σ)) (hi : inr φ σ) (hn : va_nd φ = true) : va_P D vwCl (mw cA (sub σ φ)) H ∧ va_D (fun _ => True) (mw cA (sub σ φ)) := by
  have key : ∀ (k : Nat) (x : Nat × va_E), (mw cA (sub σ φ))[k]? = some x → ∃ i, φ[k]? = some i ∧ (mw cA σ)[i]? = some x := by
    intro k x hk
    have hl : k < φ.length := by
      have := (List.getElem?_eq_some_iff.mp hk).1
      rw [mw, List.length_map, sub_length φ hi] at this
      exact this
    refine ⟨φ[k], List.getElem?_eq_getElem hl, ?_⟩
    rw [mw, List.getElem?_map] at hk ⊢
    rw [← sub_get φ hi k _ (List.getElem?_eq_getElem hl)]
    exact hk
  refine ⟨fun k x hk => ?_, fun i j x y hx hy hxy => ?_, fun _ _ _ => trivial⟩
  · obtain ⟨i, -, h2⟩ := key k x hk
    exact hP i x h2
  · obtain ⟨i1, h1, h2⟩ := key i x hx
    obtain ⟨j1, h3, h4⟩ := key j y hy
    have h5 := hD.1 i1 j1 x y h2 h4 hxy
    subst h5
    exact va_nd_inj φ hn i j i1 h1 h3
section SC
variable {l : Launch} {R : Room} {own : String} {cc : ByteArray} {ws : List Cond} {nL : Nat} {ret : Option FieldType} {pc : Nat}
theorem s_callv {ci ix maxL nA : Nat} {C : String} {T : u_T} {N : Nat} {φ : List Nat} {y : MethodName} {bytes : ByteArray} {ret' : Option FieldType} {ws' wt : List Cond} {rm : Room} {Tr : pT} (hM : pCtr l y ws' rm (nA + 1) Tr) (hc : vwCl[ci]? = some (C, T, N)) (hn : va_nd φ = true)
    (hw : ws' = Cond.code y bytes maxL ret' :: wt) (hG : GoodIn ws (wsV own ix C y ws')) (hrc : rm.cells = 0) (hrs : rm.slots = 0) (hd0 : y.cls = C ∧ y.cls ≠ "java/lang/invoke/MethodHandle" ∧ y.cls ≠ "java/lang/invoke/VarHandle" ∧ (parseMethodDescriptor y.desc).map (fun d => d.parameters.length) = some nA) (hR : rm.frames + 1 ≤ R.frames ∧ 8 + (maxL + 11) + rm.locals ≤ R.locals)
    (hd : decode cc pc = .ok (.invokevirtual ix, 3)) : pSnd l R own cc ws nL ret pc 3 (a_callv (nA + 1) ci φ Tr) := by
  intro p e s m args below meth c D cA as A F L st σ nx J Post h hnx hj
  obtain ⟨hx, hb, hown, hts, hK, hml, hA, hr, hlocks, hnw⟩ := F
  obtain ⟨h1, h2, h3, h4, h5⟩ := h
  intro H locs ls hP hD hS hl ha hL
  obtain ⟨b, As, hvs⟩ : ∃ (b : Nat) (As : List pV), (st.take (nA + 1)).reverse = .inr (.inr b) :: As := by
    unfold rcv at h4
    split at h4
    next b vs a o rs e1 e2 => exact ⟨b, vs, e1⟩
    next => exact h4.elim
  have hlen : As.length = nA := by
    have := congrArg List.length hvs
    simp only [List.length_reverse, List.length_take, List.length_cons] at this
    omega
  have hst : st.map mv = (As.map mv).reverse ++ Value.ref b :: (st.drop (nA + 1)).map mv := by
    have h6 : st = (st.take (nA + 1)).reverse.reverse ++ st.drop (nA + 1) := by rw [List.reverse_reverse, List.take_append_drop]
    rw [hvs] at h6
    conv => lhs; rw [h6]
    simp [mv]
  obtain ⟨hPc, hDc⟩ := sub_D hP hD h3 hn
  obtain ⟨fs, rs, hs0⟩ : ∃ (fs : List pV) (rs : pS), sub σ φ = (b, .inr (ci, fs)) :: rs := by
    unfold rcv at h4
    split at h4
    next b' vs a o rs e1 e2 =>
      rw [hvs] at e1
      obtain ⟨e3, -⟩ := List.cons.inj e1
      obtain ⟨oc, fs⟩ := o
      refine ⟨fs, rs, ?_⟩
      rw [e2, ← h4.1, ← h4.2]
      have e4 : b = b' := Sum.inr.inj (Sum.inr.inj e3)
      rw [e4]
    next => exact h4.elim
  have hM' := hM D cA _ _ _ H.size (by simp; omega) h5
  have hfr : ∀ q, va_A (mw cA (sub σ φ)) H.size q → A q := va_A_sub hD hS hA
  have hrun := va_runV (p := p) (l := l) (e := e) (R := R) (s := s) (m := m) (args := args) (below := below) (meth := meth) (c := c) (H := H) (locs := locs) (cells := 0) (slots := 0) (As := As.map mv) (b := b) (rest := (st.drop (nA + 1)).map mv) (g := F0 m pc ls (st.map mv)) (nL := nL) (cc := cc) (Ts := ws) ⟨hx, hb, hml, hown, hts⟩ hM' (cwV nA hts hG hw hrc hrs hd0 hR)
    ⟨fb_ok, va_recv hK hPc (ci := ci) (q0 := 0) hc (by rw [mw, hs0]; rfl), fun U hU hW => ⟨by rw [hvs]; rfl, by rw [hU], by rw [hU]; exact hPc, va_K.moved hW.alike hK, hDc, pNw.warm hW hnw⟩⟩ rfl (by rw [List.length_map]; exact hlen) hl.1 hst (lv_room (cat_sum _ 4 h2)) hd ⟨by omega, by omega⟩
  refine my_call hrun hS (fun q _ h => hfr q h) hfr (fun r u H1 locs1 hp hu hP1 hk1 hS1 => ?_)
  rw [psh_mv]
  have hj2 := joi_fst φ σ u h3 hu
  exact hnx _ _ _ hp H1 locs1 ls (joi_P hP hD h3 hu hP1 hk1) (va_D_cong (by rw [mw_fst, mw_fst, hj2]) hD) hS1 hl (by rw [hj2]; exact ha) hL
theorem s_calls {ix maxL nA : Nat} {φ : List Nat} {y : MethodName} {bytes : ByteArray} {ret' : Option FieldType} {ws' wt : List Cond} {rm : Room} {Tr : pT} (hM : pCtr l y ws' rm nA Tr) (hn : va_nd φ = true)
    (hw : ws' = Cond.code y bytes maxL ret' :: wt) (hG : GoodIn ws ws') (hlk : Cond.methodLink own ix y ∈ ws) (hstt : Cond.static y ∈ ws) (hini : Cond.initialized y.cls ∈ ws) (hrc : rm.cells = 0) (hrs : rm.slots = 0) (hd0 : y.cls ≠ "java/lang/invoke/MethodHandle" ∧ y.cls ≠ "java/lang/invoke/VarHandle" ∧ (parseMethodDescriptor y.desc).map (fun d => d.parameters.length) = some nA) (hR : rm.frames + 1 ≤ R.frames ∧ 8 + (maxL + 11) + rm.locals ≤ R.locals)
    (hd : decode cc pc = .ok (.invokestatic ix, 3)) : pSnd l R own cc ws nL ret pc 3 (a_calls nA φ Tr) := by
  intro p e s m args below meth c D cA as A F L st σ nx J Post h hnx hj
  obtain ⟨hx, hb, hown, hts, hK, hml, hA, hr, hlocks, hnw⟩ := F
  obtain ⟨h1, h2, h3, h5⟩ := h
  intro H locs ls hP hD hS hl ha hL
  obtain ⟨As, hvs⟩ : ∃ (As : List pV), (st.take nA).reverse = As := ⟨_, rfl⟩
  have hlen : As.length = nA := by
    have := congrArg List.length hvs
    simp only [List.length_reverse, List.length_take] at this
    omega
  have hst : st.map mv = (As.map mv).reverse ++ (st.drop nA).map mv := by
    have h6 : st = (st.take nA).reverse.reverse ++ st.drop nA := by rw [List.reverse_reverse, List.take_append_drop]
    rw [hvs] at h6
    conv => lhs; rw [h6]
    simp
  obtain ⟨hPc, hDc⟩ := sub_D hP hD h3 hn
  rw [hvs] at h5
  have hM' := hM D cA _ _ _ H.size hlen h5
  have hfr : ∀ q, va_A (mw cA (sub σ φ)) H.size q → A q := va_A_sub hD hS hA
  have hrun := va_runS (p := p) (l := l) (e := e) (R := R) (s := s) (m := m) (args := args) (below := below) (meth := meth) (c := c) (H := H) (locs := locs) (cells := 0) (slots := 0) (As := As.map mv) (rest := (st.drop nA).map mv) (g := F0 m pc ls (st.map mv)) (nL := nL) (cc := cc) (Ts := ws) ⟨hx, hb, hml, hown, hts⟩ hM' ⟨callB_of nA hts hG hw hrc hrs (hts _ hini) (hts _ hlk) hd0 hR, hts _ hstt⟩
    ⟨fb_ok, fun U hU hW => ⟨rfl, by rw [hU], by rw [hU]; exact hPc, va_K.moved hW.alike hK, hDc, pNw.warm hW hnw⟩⟩ rfl (by rw [List.length_map]; exact hlen) hl.1 hst (lv_room (cat_sum _ 4 h2)) hd ⟨by omega, by omega⟩
  refine my_call hrun hS (fun q _ h => hfr q h) hfr (fun r u H1 locs1 hp hu hP1 hk1 hS1 => ?_)
  rw [psh_mv]
  have hj2 := joi_fst φ σ u h3 hu
  exact hnx _ _ _ hp H1 locs1 ls (joi_P hP hD h3 hu hP1 hk1) (va_D_cong (by rw [mw_fst, mw_fst, hj2]) hD) hS1 hl (by rw [hj2]; exact ha) hL
theorem s_callsN {ix maxL nA : Nat} {φ : List Nat} {y : MethodName} {bytes : ByteArray} {ret' : Option FieldType} {ws' wt : List Cond} {rm : Room} {Tr : pT} (hM : pCtr l y ws' rm nA Tr) (hn : va_nd φ = true)
    (hw : ws' = Cond.code y bytes maxL ret' :: wt) (hG : GoodIn ws ws') {host : String} (hlk : (own, ix, y, host) ∈ pNests) (hstt : Cond.static y ∈ ws) (hini : Cond.initialized y.cls ∈ ws) (hrc : rm.cells = 0) (hrs : rm.slots = 0) (hd0 : y.cls ≠ "java/lang/invoke/MethodHandle" ∧ y.cls ≠ "java/lang/invoke/VarHandle" ∧ (parseMethodDescriptor y.desc).map (fun d => d.parameters.length) = some nA) (hR : rm.frames + 1 ≤ R.frames ∧ 8 + (maxL + 11) + rm.locals ≤ R.locals)
    (hd : decode cc pc = .ok (.invokestatic ix, 3)) : pSnd l R own cc ws nL ret pc 3 (a_calls nA φ Tr) := by
  intro p e s m args below meth c D cA as A F L st σ nx J Post h hnx hj
  obtain ⟨hx, hb, hown, hts, hK, hml, hA, hr, hlocks, hnw⟩ := F
  obtain ⟨h1, h2, h3, h5⟩ := h
  intro H locs ls hP hD hS hl ha hL
  obtain ⟨As, hvs⟩ : ∃ (As : List pV), (st.take nA).reverse = As := ⟨_, rfl⟩
  have hlen : As.length = nA := by
    have := congrArg List.length hvs
    simp only [List.length_reverse, List.length_take] at this
    omega
  have hst : st.map mv = (As.map mv).reverse ++ (st.drop nA).map mv := by
    have h6 : st = (st.take nA).reverse.reverse ++ st.drop nA := by rw [List.reverse_reverse, List.take_append_drop]
    rw [hvs] at h6
    conv => lhs; rw [h6]
    simp
  obtain ⟨hPc, hDc⟩ := sub_D hP hD h3 hn
  rw [hvs] at h5
  have hM' := hM D cA _ _ _ H.size hlen h5
  have hfr : ∀ q, va_A (mw cA (sub σ φ)) H.size q → A q := va_A_sub hD hS hA
  have hrun := va_runSN (p := p) (l := l) (e := e) (R := R) (s := s) (m := m) (args := args) (below := below) (meth := meth) (c := c) (H := H) (locs := locs) (cells := 0) (slots := 0) (As := As.map mv) (rest := (st.drop nA).map mv) (g := F0 m pc ls (st.map mv)) (nL := nL) (cc := cc) (Ts := ws) ⟨hx, hb, hml, hown, hts⟩ hM' ⟨va_cnB nA hts hG hw hrc hrs (hnw _ hlk) (hts _ hini) hd0 hR, hts _ hstt, trivial⟩
    ⟨fb_ok, fun U hU hW => ⟨rfl, by rw [hU], by rw [hU]; exact hPc, va_K.moved hW.alike hK, hDc, pNw.warm hW hnw⟩⟩ rfl (by rw [List.length_map]; exact hlen) hl.1 hst (lv_room (cat_sum _ 4 h2)) hd ⟨by omega, by omega⟩
  refine my_call hrun hS (fun q _ h => hfr q h) hfr (fun r u H1 locs1 hp hu hP1 hk1 hS1 => ?_)
  rw [psh_mv]
  have hj2 := joi_fst φ σ u h3 hu
  exact hnx _ _ _ hp H1 locs1 ls (joi_P hP hD h3 hu hP1 hk1) (va_D_cong (by rw [mw_fst, mw_fst, hj2]) hD) hS1 hl (by rw [hj2]; exact ha) hL
/-- Math.min and Math.max of ints -/
def a_mmin : pAct := fun L st σ nx J Post => match st with
  | .inl b :: .inl a :: r => inI a ∧ inI b ∧ r.length ≤ 4 ∧ nx L (vI (if b < a then b else a) :: r) σ
  | _ => False
def a_mmax : pAct := fun L st σ nx J Post => match st with
  | .inl b :: .inl a :: r => inI a ∧ inI b ∧ r.length ≤ 4 ∧ nx L (vI (if a < b then b else a) :: r) σ
  | _ => False
theorem s_mmin {ix : Nat} (hlk : Cond.methodLink own ix Lib.Math.min.name ∈ ws) (hstt : Cond.static Lib.Math.min.name ∈ ws) (hini : Cond.initialized "java/lang/Math" ∈ ws) (hcd : Cond.code Lib.Math.min.name Lib.Math.min.code 2 (some .int) ∈ ws) (hR : 1 ≤ R.frames ∧ 21 ≤ R.locals)
    (hd : decode cc pc = .ok (.invokestatic ix, 3)) : pSnd l R own cc ws nL ret pc 3 a_mmin := by
  intro p e s m args below meth c D cA as A F L st σ nx J Post h hnx hj
  obtain ⟨hx, hb, hown, hts, hK, hml, hA, hr, hlocks, hnw⟩ := F
  unfold a_mmin at h
  intro H locs ls hP hD hS hl ha hL
  split at h
  next b a r =>
    obtain ⟨h1, h2, h3, h4⟩ := h
    have k := hnx _ _ _ h4 H locs ls hP hD hS hl ha hL
    refine va_mmin hx hb (hml.trans hl.1.symm) hown (hts _ hlk) (hts _ hstt) (hts _ hini) (hts _ hcd) hR.1 (by have := cat_sum r 4 h3; have := hR.2; omega) (Nat.zero_le _) (Nat.zero_le _) hd ?_
    have e0 : (if zI b < zI a then zI b else zI a) = zI (if b < a then b else a) := by
      by_cases q : b < a
      · rw [if_pos q, if_pos ((zI_lt h2 h1).mpr q)]
      · rw [if_neg q, if_neg (fun z => q ((zI_lt h2 h1).mp z))]
    rw [e0]
    exact k
  next => exact h.elim
theorem s_mmax {ix : Nat} (hlk : Cond.methodLink own ix Lib.Math.max.name ∈ ws) (hstt : Cond.static Lib.Math.max.name ∈ ws) (hini : Cond.initialized "java/lang/Math" ∈ ws) (hcd : Cond.code Lib.Math.max.name Lib.Math.max.code 2 (some .int) ∈ ws) (hR : 1 ≤ R.frames ∧ 21 ≤ R.locals)
    (hd : decode cc pc = .ok (.invokestatic ix, 3)) : pSnd l R own cc ws nL ret pc 3 a_mmax := by
  intro p e s m args below meth c D cA as A F L st σ nx J Post h hnx hj
  obtain ⟨hx, hb, hown, hts, hK, hml, hA, hr, hlocks, hnw⟩ := F
  unfold a_mmax at h
  intro H locs ls hP hD hS hl ha hL
  split at h
  next b a r =>
    obtain ⟨h1, h2, h3, h4⟩ := h
    have k := hnx _ _ _ h4 H locs ls hP hD hS hl ha hL
    refine va_mmax hx hb (hml.trans hl.1.symm) hown (hts _ hlk) (hts _ hstt) (hts _ hini) (hts _ hcd) hR.1 (by have := cat_sum r 4 h3; have := hR.2; omega) (Nat.zero_le _) (Nat.zero_le _) hd ?_
    have e0 : (if zI a < zI b then zI b else zI a) = zI (if a < b then b else a) := by
      by_cases q : a < b
      · rw [if_pos q, if_pos ((zI_lt h1 h2).mpr q)]
      · rw [if_neg q, if_neg (fun z => q ((zI_lt h1 h2).mp z))]
    first | (rw [e0]; exact k) | (rw [← e0] at k; simpa using k)
  next => exact h.elim
end SC
theorem aLf_ent : ∀ (vs : List pV) (i : Nat), aLf i (entL vs) = lv_args i (vs.map mv)
  | [], _ => rfl
  | .inr (.inl z) :: vs, i => by
    rw [List.map_cons, lv_args, entL, aLf, aLf, aLf_ent vs]
    rfl
  | .inl z :: vs, i => by
    rw [List.map_cons, lv_args, entL, aLf, aLf_ent vs]
    · rfl
    · intro z h; cases h
  | .inr (.inr z) :: vs, i => by
    rw [List.map_cons, lv_args, entL, aLf, aLf_ent vs]
    · rfl
    · intro z h; cases h
theorem entL_len : ∀ (vs : List pV), (lg_sl (vs.map mv)).length = (entL vs).length
  | [] => rfl
  | .inr (.inl z) :: vs => by
    have := entL_len vs
    simp only [lg_sl, List.map_cons, List.flatMap_cons, List.length_append, mv, Value.category, entL, List.length_cons] at this ⊢
    simp only [if_true, List.length_cons, List.length_nil]
    omega
  | .inl z :: vs => by
    have := entL_len vs
    simp only [lg_sl, List.map_cons, List.flatMap_cons, List.length_append, mv, Value.category] at this ⊢
    rw [entL, List.length_cons]
    · simp; simp at this; omega
    · intro z h; cases h
  | .inr (.inr z) :: vs => by
    have := entL_len vs
    simp only [lg_sl, List.map_cons, List.flatMap_cons, List.length_append, mv, Value.category] at this ⊢
    rw [entL, List.length_cons]
    · simp; simp at this; omega
    · intro z h; cases h
theorem aLf_rep : ∀ (n i : Nat), aLf i (List.replicate n none) = []
  | 0, _ => rfl
  | n + 1, i => aLf_rep n (i + 1)
theorem aLf_pad (n : Nat) : ∀ (L : pL) (i : Nat), aLf i (L ++ List.replicate n none) = aLf i L
  | [], i => aLf_rep n i
  | none :: L, i => by rw [List.cons_append, aLf, aLf, aLf_pad n L]
  | some v :: L, i => by rw [List.cons_append, aLf, aLf, aLf_pad n L]
/-- the reading of a method by its blocks, with room for its arguments -/
def pM (K : List (Nat × pProg)) (nL : Nat) : pT := fun vs σ Post => (entL vs).length ≤ nL ∧ ∀ J : pJ, pCl K J Post → J 0 (entN nL vs) [] σ
set_option maxHeartbeats 1000000 in
theorem ctr_of {l : Launch} {y : MethodName} {ws wt : List Cond} {rm : Room} {nA nL : Nat} {cc : ByteArray} {ret : Option FieldType} {K : List (Nat × pProg)} (hy : plainName y.cls = true) (hw : ws = Cond.code y cc nL ret :: wt) (hK : ∀ q ∈ K, AllS (pSnd l rm y.cls cc ws nL ret) q.1 q.2) : pCtr l y ws rm nA (pM K nL) := by
  intro D cA vs σ Post sz hlen hT
  refine Met.ofW (cc := cc) (maxL := nL) (ret := ret) hy hw ?_
  intro p e s m args below meth c s₁ B hml hv
  obtain ⟨rfl, hsz, hP, hKK, hD0, hnw⟩ := hv
  have hx := B.exec
  have hb := B.bytes
  have hr := B.returns
  have hts := atoms_spec (ws := ws) B.pre
  have hown : s.vm.findClass y.cls = some m.cls := findClass_of_methodNamed B.named
  have hlocks := B.notSynchronized
  subst hsz
  have hD := hD0.self (sz := s.heap.size)
  generalize hAe : va_A (mw cA σ) s.heap.size = A at hD ⊢
  have hA : ∀ q : Nat, s.heap.size ≤ q → A q := fun q h => by rw [← hAe]; exact Or.inr h
  have hS : va_S A s.heap s.heap [] := va_S.rf
  have hl := lv_entry (vs.map mv) (n := nL) (by rw [entL_len]; exact hT.1)
  rw [lg_entry_eq]
  generalize (lg_sl (vs.map mv) ++ List.replicate (nL - (lg_sl (vs.map mv)).length) Slot.unset).toArray = ls at hl ⊢
  have F : pFx p s m (vs.map mv).toArray meth c D cA A y.cls cc ws nL ret := ⟨hx, hb, hown, hts, hKK, hml, hA, hr, hlocks, hnw⟩
  have hcl : pCl K (pOk p l e rm s m (vs.map mv).toArray below meth c D cA (σ.map Prod.fst) A nL Post) Post := by
    refine ⟨fun q hq J' hJ' L st σ' h => ?_, fun t L L' st σ' h k => pOk_less h k⟩
    exact seg_ok F (J := J') hJ' q.2 q.1 (hK q hq) L st σ' h
  have h0 := hT.2 _ hcl
  refine h0 s.heap [] ls hP hD hS ?_ rfl ?_
  · rw [entN, aLf_pad, aLf_ent]
    exact hl
  · rw [entN, List.length_append, List.length_replicate]
    have := hT.1
    omega
/-- the block at a place -/
def blkOf : List (Nat × pProg) → Nat → Option pProg
  | [], _ => none
  | q :: r, t => if q.1 = t then some q.2 else blkOf r t
theorem blkOf_mem {t : Nat} {k : pProg} : ∀ {K : List (Nat × pProg)}, blkOf K t = some k → (t, k) ∈ K
  | [], h => by cases h
  | q :: r, h => by
    unfold blkOf at h
    by_cases e : q.1 = t
    · rw [if_pos e] at h
      cases h
      subst e
      exact List.mem_cons_self
    · rw [if_neg e] at h
      exact List.mem_cons_of_mem _ (blkOf_mem h)
/-- some blocks one behind the other; at the stops, and at the end of the fuel, J -/
def runG (K : List (Nat × pProg)) (stops : List Nat) (J : pJ) (Post : pR) : Nat → pJ
  | 0 => J
  | n + 1 => fun t L st σ => if stops.elem t = true then J t L st σ else match blkOf K t with
    | some k => seg k L st σ (runG K stops J Post n) Post
    | none => False
theorem runG_ok {K : List (Nat × pProg)} {stops : List Nat} {J : pJ} {Post : pR} (hJ : pCl K J Post) : ∀ (n t : Nat) (L : pL) (st : List pV) (σ : pS), runG K stops J Post n t L st σ → J t L st σ
  | 0, _, _, _, _, h => h
  | n + 1, t, L, st, σ, h => by
    unfold runG at h
    split at h
    · exact h
    · split at h
      next k hk => exact hJ.1 _ (blkOf_mem hk) _ (fun t L st σ h => runG_ok hJ n t L st σ h) L st σ h
      next => exact h.elim
theorem runG_s {K : List (Nat × pProg)} {stops : List Nat} {J : pJ} {Post : pR} {n t : Nat} {L : pL} {st : List pV} {σ : pS} : runG K stops J Post (n + 1) t L st σ = if stops.elem t = true then J t L st σ else match blkOf K t with
    | some k => seg k L st σ (runG K stops J Post n) Post
    | none => False := rfl
theorem runG_0 {K : List (Nat × pProg)} {stops : List Nat} {J : pJ} {Post : pR} {t : Nat} {L : pL} {st : List pV} {σ : pS} : runG K stops J Post 0 t L st σ = J t L st σ := rfl
theorem blkOf_c {a t : Nat} {k : pProg} {r : List (Nat × pProg)} : blkOf ((a, k) :: r) t = if a = t then some k else blkOf r t := rfl
/-- a method without a loop: n blocks at most -/
theorem pM_run {K : List (Nat × pProg)} {nL : Nat} {vs : List pV} {σ : pS} {Post : pR} (n : Nat) (h0 : (entL vs).length ≤ nL) (h : ∀ J : pJ, runG K [] J Post n 0 (entN nL vs) [] σ) : pM K nL vs σ Post := ⟨h0, fun J hJ => runG_ok hJ n _ _ _ _ (h J)⟩
/-- a method with loops: to the stops, where J is known -/
theorem pM_loop {K : List (Nat × pProg)} {nL : Nat} {vs : List pV} {σ : pS} {Post : pR} (stops : List Nat) (n : Nat) (h0 : (entL vs).length ≤ nL) (h : ∀ J : pJ, pCl K J Post → runG K stops J Post n 0 (entN nL vs) [] σ) : pM K nL vs σ Post := ⟨h0, fun J hJ => runG_ok hJ n _ _ _ _ (h J hJ)⟩
/-- from a loop's head: its block, and what follows up to the stops -/
theorem head_run {K : List (Nat × pProg)} {J : pJ} {Post : pR} (hJ : pCl K J Post) (stops : List Nat) (n : Nat) {t : Nat} {k : pProg} (hk : blkOf K t = some k) {L : pL} {st : List pV} {σ : pS} (h : seg k L st σ (runG K stops J Post n) Post) : J t L st σ :=
  hJ.1 _ (blkOf_mem hk) _ (fun t L st σ h => runG_ok hJ n t L st σ h) L st σ h
theorem J_less {K : List (Nat × pProg)} {J : pJ} {Post : pR} (hJ : pCl K J Post) {t : Nat} {L L' : pL} {st : List pV} {σ : pS} (h : J t L st σ) (hl : leL L L') : J t L' st σ := hJ.2 t L L' st σ hl h
theorem leL_nil : leL [] [] := ⟨rfl, fun _ _ h => h⟩
theorem leL_n {L L' : pL} {x : Option pV} (h : leL L L') : leL (none :: L) (x :: L') := ⟨congrArg (· + 1) h.1, fun i v hv => by cases i with
  | zero => simp at hv
  | succ i => simpa using h.2 i v (by simpa using hv)⟩
theorem leL_c {L L' : pL} {x : Option pV} (h : leL L L') : leL (x :: L) (x :: L') := ⟨congrArg (· + 1) h.1, fun i v hv => by cases i with
  | zero => simpa using hv
  | succ i => simpa using h.2 i v (by simpa using hv)⟩
