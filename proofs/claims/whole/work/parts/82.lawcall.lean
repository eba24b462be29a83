/-! ===== the law's calls ===== -/
theorem gl1 {w : Cond} (h : w ∈ gw_tbl) : w ∈ lw_tbl ∧ ((w.onTables && w.keeps) = true ∨ ∃ ty, w = .arrayClass ty) := ⟨(List.mem_filter.mp h).1, good_of_word (lw_good w h)⟩
theorem glS {y : MethodName} {c : ByteArray} {n : Nat} {r : Option FieldType} (h5 : Cond.code y c n r ∈ gw_tbl) : GoodIn lw_tbl (Cond.code y c n r :: gw_tbl) := fun w hw => (List.mem_cons.mp hw).elim (fun e => gl1 (e ▸ h5)) gl1
theorem glV {own C : String} {ix : Nat} {y : MethodName} {c : ByteArray} {n : Nat} {r : Option FieldType} (h1 : Cond.methodLink own ix y ∈ gw_tbl) (h2 : Cond.instanceMethod y ∈ gw_tbl) (h3 : Cond.selects C y y ∈ gw_tbl) (h4 : Cond.initialized C ∈ gw_tbl) (h5 : Cond.code y c n r ∈ gw_tbl) : GoodIn lw_tbl (wsV own ix C y (Cond.code y c n r :: gw_tbl)) := by
  intro w hw
  unfold wsV at hw
  rcases List.mem_append.mp hw with h | h
  · simp only [List.mem_cons, List.not_mem_nil, or_false] at h
    rcases h with rfl | rfl | rfl | rfl
    · exact gl1 h1
    · exact gl1 h2
    · exact gl1 h3
    · exact gl1 h4
  · exact glS h5 w h
section LQQ
variable {p : Program} {l : Launch} {e : Env} {R : Room} {s : State} {m : MethodId} {args : Array Value} {below : List Frame} {meth : Method} {c : Code} {H : Heap} {locs : List Loc} {Q : State → Prop} {cells slots : Nat}
theorem my_callC {D : va_G} {cA : ClassId} {as : List Nat} {A0 A1 : Nat → Prop} {Post : pR} {pc : Nat} {ls : Array Slot} {rest st0 : List Value} {a : Array Value} {H0 : Heap} {free : Addr → Prop} (hr : va_Run p l e R s m args below meth c H locs cells slots 0 0 (F0 m pc ls st0) rest (pQ D cA as A1 Post a) free) (hS : va_S A0 H0 H locs) (hA : ∀ q, q < H.size → A1 q → A0 q) (hf : ∀ q, free q → A0 q)
    (kk : ∀ (r : Option pV) (u : pS) (H1 : Heap) (locs1 : List Loc), Post r u → u.map Prod.fst = as → va_P D vwCl (mw cA u) H1 → (∀ q : Nat, q < H.size → ¬ A1 q → H1[q]? = H[q]?) → va_S A0 H0 H1 locs1 → W p l e R s m args below meth c H1 locs1 cells slots Q (F0 m (pc + 3) ls ((r.map mv).toList ++ rest))) : W p l e R s m args below meth c H locs cells slots Q (F0 m pc ls st0) := by
  intro T hT X
  obtain ⟨v, st₀, t, T', L, h0, X', hL, e1, e2, ⟨⟨r, u, hv, hp, ha, hb⟩, hz, hk⟩, st⟩ := hr T hT X
  have hv2 : v = r.map mv := by cases hv; rfl
  subst hv2
  rw [h0] at hz hk
  obtain ⟨t2, a1, b1⟩ := kk r u T'.heap (locs ++ L) hp ha (by rw [e1]; exact hb) (fun q h1 h2 => by rw [e1]; exact hk q h1 h2)
    ⟨Nat.le_trans hS.1 (by rw [e1]; exact hz), fun q h1 h2 => by rw [e1, hk q (Nat.lt_of_lt_of_le h1 hS.1) (fun z => h2 (hA q (Nat.lt_of_lt_of_le h1 hS.1) z))]; exact hS.2.1 q h1 h2, fun q hq => by
      rcases List.mem_append.mp hq with h | h
      · exact hS.2.2 q h
      · exact hf _ (hL q h)⟩ T' rfl X'
  exact ⟨t2, st t2 a1, b1⟩
end LQQ
/-- what the law's frame has all along -/
def lwF (p : Program) (s : State) (m : MethodId) (meth : Method) (c : Code) (b L : Nat) (xs : Nat → Int32) (D : va_G) (cA : ClassId) : Prop :=
  p.tables.exec = Jvm.exec ∧ c.code = cL_law ∧ s.vm.findClass RL = some m.cls ∧ (∀ w ∈ lw_tbl, w.before #[Value.ref b] s = true) ∧ va_K D vwCl [(cA, .int)] s ∧ c.maxLocals = 4 ∧ pNw s ∧ va_X b L xs s s.heap ∧ b < s.heap.size ∧ meth.sig.returnType = ret ∧ meth.locks = false
abbrev lwA (s : State) : Nat → Prop := fun q => s.heap.size ≤ q
abbrev lwW (p : Program) (l : Launch) (e : Env) (s : State) (m : MethodId) (below : List Frame) (meth : Method) (c : Code) (b : Nat) (H : Heap) (locs : List Loc) (g : JFrame) : Prop := W p l e room_1 s m #[Value.ref b] below meth c H locs 46 1031 (lw_Z below #[Value.ref b] s) g
section LWD
variable {p : Program} {l : Launch} {e : Env} {s : State} {m : MethodId} {below : List Frame} {meth : Method} {c : Code} {b L : Nat} {xs : Nat → Int32} {D : va_G} {cA : ClassId} {H : Heap} {locs : List Loc} {ls : Array Slot} {pc : Nat}
theorem lw_callv {ci ix maxL nA : Nat} {C : String} {T : u_T} {N : Nat} {φ : List Nat} {y : MethodName} {bytes : ByteArray} {ret' : Option FieldType} {ws' wt : List Cond} {rm : Room} {Tr : pT} {σ : pS} {As : List pV} {a : Nat} {rest st0 : List Value} {Post : pR} (F : lwF p s m meth c b L xs D cA) (hM : pCtr l y ws' rm (nA + 1) Tr) (hc : vwCl[ci]? = some (C, T, N)) (hn : va_nd φ = true)
    (hw : ws' = Cond.code y bytes maxL ret' :: wt) (hG : GoodIn lw_tbl (wsV RL ix C y ws')) (hrc : rm.cells = 0) (hrs : rm.slots = 0) (hd0 : y.cls = C ∧ y.cls ≠ "java/lang/invoke/MethodHandle" ∧ y.cls ≠ "java/lang/invoke/VarHandle" ∧ (parseMethodDescriptor y.desc).map (fun d => d.parameters.length) = some nA) (hR : rm.frames + 1 ≤ room_1.frames ∧ 8 + (maxL + 11) + rm.locals ≤ room_1.locals)
    (hd : decode cL_law pc = .ok (.invokevirtual ix, 3)) (hP : va_P D vwCl (mw cA σ) H) (hD : va_D (lwA s) (mw cA σ)) (hS : va_S (lwA s) s.heap H locs) (hsz : ls.size = 4) (hst : st0 = (As.map mv).reverse ++ Value.ref a :: rest) (hrest : (rest.map fun v => v.category).sum ≤ 8) (hlen : As.length = nA) (hi : inr φ σ) (hrv : rcv ci (vR a :: As) (sub σ φ)) (hT : Tr (vR a :: As) (sub σ φ) Post)
    (kk : ∀ (r : Option pV) (u : pS) (H1 : Heap) (locs1 : List Loc), Post r u → va_P D vwCl (mw cA (joi σ φ u)) H1 → va_D (lwA s) (mw cA (joi σ φ u)) → va_S (lwA s) s.heap H1 locs1 → lwW p l e s m below meth c b H1 locs1 (F0 m (pc + 3) ls ((r.map mv).toList ++ rest))) : lwW p l e s m below meth c b H locs (F0 m pc ls st0) := by
  obtain ⟨hx, hb, hown, hts, hK, hml, hnw, hX, hbl, hr, hlocks⟩ := F
  obtain ⟨hPc, hDc⟩ := sub_D hP hD hi hn
  obtain ⟨fs, rs, hs0⟩ : ∃ (fs : List pV) (rs : pS), sub σ φ = (a, .inr (ci, fs)) :: rs := by
    unfold rcv at hrv
    split at hrv
    next b' vs a' o rs e1 e2 =>
      obtain ⟨e3, -⟩ := List.cons.inj e1
      obtain ⟨oc, fs⟩ := o
      refine ⟨fs, rs, ?_⟩
      rw [e2, ← hrv.1, ← hrv.2]
      have e4 : a = b' := Sum.inr.inj (Sum.inr.inj e3)
      rw [e4]
    next => exact hrv.elim
  have hM' := hM D cA _ _ _ H.size (by simp; omega) hT
  have hA : ∀ q : Nat, s.heap.size ≤ q → lwA s q := fun _ h => h
  have hfr : ∀ q, va_A (mw cA (sub σ φ)) H.size q → lwA s q := va_A_sub hD hS hA
  have hrun := va_runV (p := p) (l := l) (e := e) (R := room_1) (s := s) (m := m) (args := #[Value.ref b]) (below := below) (meth := meth) (c := c) (H := H) (locs := locs) (cells := 46) (slots := 1031) (As := As.map mv) (b := a) (rest := rest) (g := F0 m pc ls st0) (nL := 4) (cc := cL_law) (Ts := lw_tbl) ⟨hx, hb, hml, hown, hts⟩ hM' (cwV nA hts hG hw hrc hrs hd0 hR)
    ⟨fb_ok, va_recv hK hPc (ci := ci) (q0 := 0) hc (by rw [mw, hs0]; rfl), fun U hU hW => ⟨rfl, by rw [hU], by rw [hU]; exact hPc, va_K.moved hW.alike hK, hDc, pNw.warm hW hnw⟩⟩ rfl (by rw [List.length_map]; exact hlen) hsz hst (lv_room hrest) hd ⟨Nat.le_of_ble_eq_true rfl, Nat.le_of_ble_eq_true rfl⟩
  refine my_callC hrun hS (fun q _ h => hfr q h) hfr (fun r u H1 locs1 hp hu hP1 hk1 hS1 => ?_)
  have hj2 := joi_fst φ σ u hi hu
  exact kk _ _ _ _ hp (joi_P hP hD hi hu hP1 hk1) (va_D_cong (by rw [mw_fst, mw_fst, hj2]) hD) hS1
/-- an argument: a number of the script -/
def zg (xs : Nat → Int32) (i k : Nat) : Int := (xs (i + k)).toInt
theorem zg_in (xs : Nat → Int32) (i k : Nat) : inI (zg xs i k) := inI_toInt _
theorem lw_arg {X Y i k : Nat} {st : List Value} (F : lwF p s m meth c b L xs D cA) (hS : va_S (lwA s) s.heap H locs) (hl : lv_has ls 4 [(0, .ref b), (1, .ref X), (2, .ref Y), (3, .int (zI (i : Int)))]) (hi : i + k < L) (hL : L ≤ 3072) (hk : k ≤ 5) (d0 : decode cL_law pc = .ok (.aload_n 0, 1)) (d1 : decode cL_law (pc + 1) = .ok (.iload_n 3, 1)) (d2 : decode cL_law (pc + 1 + 1) = .ok (.iconst (k : Int), 1)) (d3 : decode cL_law (pc + 1 + 1 + 1) = .ok (.iadd, 1)) (d4 : decode cL_law (pc + 1 + 1 + 1 + 1) = .ok (.iaload, 1))
    (kk : lwW p l e s m below meth c b H locs (F0 m (pc + 1 + 1 + 1 + 1 + 1) ls (mv (vI (zg xs i k)) :: st))) : lwW p l e s m below meth c b H locs (F0 m pc ls st) := by
  obtain ⟨hx, hb, hown, hts, hK, hml, hnw, hX, hbl, hr, hlocks⟩ := F
  refine lv_aload_n hx hb d0 rfl (lv_at hl 0 rfl) ?_
  refine lv_iload_n hx hb d1 rfl (lv_at hl 3 rfl) ?_
  refine lv_iconst (v := zI (k : Int)) hx hb d2 rfl ?_
  refine lv_iadd hx hb d3 ?_
  rw [← zI_add]
  have h9 : vp_in (zI ((i : Int) + (k : Int))) L := zI_in (by omega) (by omega) (by omega)
  refine va_sld hx hb hX hbl (Nat.not_le.mpr hbl) hS h9 d4 ?_
  rw [zI_clamp (by omega) (by omega), show ((i : Int) + (k : Int)).toNat = i + k by omega]
  have e9 : mv (vI (zg xs i k)) = Value.int (xs (i + k)) := by
    show Value.int (zI (xs (i + k)).toInt) = _
    rw [zI_ofToInt]
  rw [e9] at kk
  exact kk
end LWD
/-- behind a call the law goes on with the same state on both sides -/
def lwG (p : Program) (l : Launch) (e : Env) (s : State) (m : MethodId) (below : List Frame) (meth : Method) (c : Code) (b : Nat) (D : va_G) (cA : ClassId) (X Y : Nat → Nat) (i pc : Nat) (S : St) : Prop :=
  ∀ (M : Gal) (fw X1 X2 le la td wk wn cs : List Int) (kk cu rd st wg lo : Int) (H : Heap) (locs : List Loc) (ls : Array Slot), lenG M → fw.length = 20 → okZ X1 X2 le la td wk wn cs wg → va_P D vwCl (mw cA (xSt X M fw S ++ mSt Y X1 X2 le la td wk wn cs kk cu rd st wg lo S)) H → va_D (lwA s) (mw cA (xSt X M fw S ++ mSt Y X1 X2 le la td wk wn cs kk cu rd st wg lo S)) → va_S (lwA s) s.heap H locs → lv_has ls 4 [(0, .ref b), (1, .ref (X 0)), (2, .ref (Y 0)), (3, .int (zI (i : Int)))] →
    lwW p l e s m below meth c b H locs (F0 m pc ls [])
theorem tr_sub {T : pT} {vs : List pV} {σ σ' : pS} {φ : List Nat} {Post : pR} (e : sub σ φ = σ') (h : T vs σ' Post) : T vs (sub σ φ) Post := by
  rw [e]
  exact h
theorem mq_set : ∀ (pre : pS) (c d : Nat × pC) (r : pS), (pre ++ c :: r).set pre.length d = pre ++ d :: r
  | [], _, _, _ => rfl
  | x :: pre, c, d, r => by
    show x :: ((pre ++ c :: r).set pre.length d) = x :: (pre ++ d :: r)
    rw [mq_set pre c d r]
theorem mq_get : ∀ (pre : pS) (c : Nat × pC) (r : pS), (pre ++ c :: r)[pre.length]? = some c
  | [], _, _ => rfl
  | x :: pre, c, r => by
    show (pre ++ c :: r)[pre.length]? = some c
    exact mq_get pre c r
theorem mq_app (pre : pS) (c : Nat × pC) (r : pS) : pre ++ c :: r = (pre ++ [c]) ++ r := by
  rw [List.append_assoc]
  rfl
theorem mq_len (pre : pS) (c : Nat × pC) : (pre ++ [c]).length = pre.length + 1 := by
  rw [List.length_append]
  rfl
theorem mq_joi : ∀ (σ u τ pre : pS), σ.length = u.length → joi (pre ++ (σ ++ τ)) (List.range' pre.length σ.length) u = pre ++ (u ++ τ)
  | [], [], τ, pre, _ => rfl
  | c :: σ, d :: u, τ, pre, h => by
    show joi ((pre ++ c :: (σ ++ τ)).set pre.length d) (List.range' (pre.length + 1) σ.length) u = pre ++ d :: (u ++ τ)
    rw [mq_set, mq_app pre d (σ ++ τ), mq_app pre d (u ++ τ), ← mq_len pre d]
    exact mq_joi σ u τ (pre ++ [d]) (Nat.succ.inj h)
theorem mq_sub : ∀ (σ τ pre : pS), sub (pre ++ (σ ++ τ)) (List.range' pre.length σ.length) = σ
  | [], τ, pre => rfl
  | c :: σ, τ, pre => by
    show sub (pre ++ c :: (σ ++ τ)) (pre.length :: List.range' (pre.length + 1) σ.length) = c :: σ
    rw [sub_cons (mq_get pre c (σ ++ τ)), mq_app pre c (σ ++ τ), ← mq_len pre c, mq_sub σ τ (pre ++ [c])]
theorem lx_len {X : Nat → Nat} {M : Gal} {fw : List Int} {S : St} : (xSt X M fw S).length = 29 := (Eq.refl _).trans (Eq.refl _)
theorem ly_len {Y : Nat → Nat} {X1 X2 le la td wk wn cs : List Int} {kk cu rd st wg lo : Int} {S : St} : (mSt Y X1 X2 le la td wk wn cs kk cu rd st wg lo S).length = 17 := (Eq.refl _).trans (Eq.refl _)
theorem fx_e : [0, 1, 2, 3, 4, 5, 6, 7, 8, 9, 10, 11, 12, 13, 14, 15, 16, 17, 18, 19, 20, 21, 22, 23, 24, 25, 26, 27, 28] = List.range' 0 29 := by decide
theorem fy_e : [29, 30, 31, 32, 33, 34, 35, 36, 37, 38, 39, 40, 41, 42, 43, 44, 45] = List.range' 29 17 := by decide
theorem lw_sx {X Y : Nat → Nat} {M : Gal} {fw X1 X2 le la td wk wn cs : List Int} {kk cu rd st wg lo : Int} {S1 S2 : St} : sub (xSt X M fw S1 ++ mSt Y X1 X2 le la td wk wn cs kk cu rd st wg lo S2) [0, 1, 2, 3, 4, 5, 6, 7, 8, 9, 10, 11, 12, 13, 14, 15, 16, 17, 18, 19, 20, 21, 22, 23, 24, 25, 26, 27, 28] = xSt X M fw S1 := by
  have h := mq_sub (xSt X M fw S1) (mSt Y X1 X2 le la td wk wn cs kk cu rd st wg lo S2) []
  rw [lx_len] at h
  rw [fx_e]
  exact h
theorem lw_jx {X Y : Nat → Nat} {M M' : Gal} {fw fw' X1 X2 le la td wk wn cs : List Int} {kk cu rd st wg lo : Int} {S1 S1' S2 : St} : joi (xSt X M fw S1 ++ mSt Y X1 X2 le la td wk wn cs kk cu rd st wg lo S2) [0, 1, 2, 3, 4, 5, 6, 7, 8, 9, 10, 11, 12, 13, 14, 15, 16, 17, 18, 19, 20, 21, 22, 23, 24, 25, 26, 27, 28] (xSt X M' fw' S1') = xSt X M' fw' S1' ++ mSt Y X1 X2 le la td wk wn cs kk cu rd st wg lo S2 := by
  have h := mq_joi (xSt X M fw S1) (xSt X M' fw' S1') (mSt Y X1 X2 le la td wk wn cs kk cu rd st wg lo S2) [] (lx_len.trans lx_len.symm)
  rw [lx_len] at h
  rw [fx_e]
  exact h
theorem lw_sy {X Y : Nat → Nat} {M : Gal} {fw X1 X2 le la td wk wn cs : List Int} {kk cu rd st wg lo : Int} {S1 S2 : St} : sub (xSt X M fw S1 ++ mSt Y X1 X2 le la td wk wn cs kk cu rd st wg lo S2) [29, 30, 31, 32, 33, 34, 35, 36, 37, 38, 39, 40, 41, 42, 43, 44, 45] = mSt Y X1 X2 le la td wk wn cs kk cu rd st wg lo S2 := by
  have h := mq_sub (mSt Y X1 X2 le la td wk wn cs kk cu rd st wg lo S2) [] (xSt X M fw S1)
  rw [lx_len, ly_len, List.append_nil] at h
  rw [fy_e]
  exact h
theorem lw_jy {X Y : Nat → Nat} {M : Gal} {fw X1 X2 le la td wk wn cs Z1 Z2 le' la' td' wk' wn' cs' : List Int} {kk cu rd st wg lo kk' cu' rd' st' wg' lo' : Int} {S1 S2 S2' : St} : joi (xSt X M fw S1 ++ mSt Y X1 X2 le la td wk wn cs kk cu rd st wg lo S2) [29, 30, 31, 32, 33, 34, 35, 36, 37, 38, 39, 40, 41, 42, 43, 44, 45] (mSt Y Z1 Z2 le' la' td' wk' wn' cs' kk' cu' rd' st' wg' lo' S2') = xSt X M fw S1 ++ mSt Y Z1 Z2 le' la' td' wk' wn' cs' kk' cu' rd' st' wg' lo' S2' := by
  have h := mq_joi (mSt Y X1 X2 le la td wk wn cs kk cu rd st wg lo S2) (mSt Y Z1 Z2 le' la' td' wk' wn' cs' kk' cu' rd' st' wg' lo' S2') [] (xSt X M fw S1) (ly_len.trans ly_len.symm)
  rw [lx_len, ly_len, List.append_nil, List.append_nil] at h
  rw [fy_e]
  exact h
theorem lw_in {X Y : Nat → Nat} {M : Gal} {fw X1 X2 le la td wk wn cs : List Int} {kk cu rd st wg lo : Int} {S1 S2 : St} : inr [0, 1, 2, 3, 4, 5, 6, 7, 8, 9, 10, 11, 12, 13, 14, 15, 16, 17, 18, 19, 20, 21, 22, 23, 24, 25, 26, 27, 28] (xSt X M fw S1 ++ mSt Y X1 X2 le la td wk wn cs kk cu rd st wg lo S2) ∧ inr [29, 30, 31, 32, 33, 34, 35, 36, 37, 38, 39, 40, 41, 42, 43, 44, 45] (xSt X M fw S1 ++ mSt Y X1 X2 le la td wk wn cs kk cu rd st wg lo S2) := by
  have h : (xSt X M fw S1 ++ mSt Y X1 X2 le la td wk wn cs kk cu rd st wg lo S2).length = 46 := by rw [List.length_append, lx_len, ly_len]
  have k : ∀ (φ : List Nat) (σ : pS), (∀ i ∈ φ, i < σ.length) → inr φ σ := by
    intro φ σ
    induction φ with
    | nil => intro _; exact trivial
    | cons i φ ih => intro hi; exact ⟨hi i List.mem_cons_self, ih (fun j hj => hi j (List.mem_cons_of_mem _ hj))⟩
  refine ⟨k _ _ ?_, k _ _ ?_⟩
  · rw [h]
    decide
  · rw [h]
    decide
