/-! ===== values and cells of the reading: ints and longs are mathematical; a machine's int is zI of one ===== -/
def zI (z : Int) : Int32 := Int32.ofInt z
def zL (z : Int) : Int64 := Int64.ofInt z
def inI (z : Int) : Prop := -2147483648 ≤ z ∧ z < 2147483648
def inL (z : Int) : Prop := -9223372036854775808 ≤ z ∧ z < 9223372036854775808
abbrev pV : Type := Int ⊕ (Int ⊕ Nat)
abbrev vI (z : Int) : pV := .inl z
abbrev vL (z : Int) : pV := .inr (.inl z)
abbrev vR (a : Nat) : pV := .inr (.inr a)
def mv : pV → Value
  | .inl z => .int (zI z)
  | .inr (.inl z) => .long (zL z)
  | .inr (.inr a) => .ref a
abbrev pC : Type := (List Int) ⊕ (Nat × List pV)
def mcl (cA : ClassId) : pC → va_E
  | .inl xs => .inl (cA, xs.length, .inl (fun j => zI (xs.getD j 0)))
  | .inr o => .inr (o.1, o.2.map mv)
abbrev pS : Type := List (Nat × pC)
def mw (cA : ClassId) (σ : pS) : va_W := σ.map (fun q => (q.1, mcl cA q.2))
abbrev pL : Type := List (Option pV)
def aLf : Nat → pL → List (Nat × Value)
  | _, [] => []
  | i, none :: L => aLf (i + 1) L
  | i, some v :: L => (i, mv v) :: aLf (i + 1) L
theorem zI_add (a b : Int) : zI (a + b) = zI a + zI b := Int32.ofInt_add a b
theorem zI_sub (a b : Int) : zI (a - b) = zI a - zI b := Int32.ofInt_sub a b
theorem zI_mul (a b : Int) : zI (a * b) = zI a * zI b := Int32.ofInt_mul a b
theorem zI_neg (a : Int) : zI (-a) = -zI a := Int32.ofInt_neg a
theorem zL_add (a b : Int) : zL (a + b) = zL a + zL b := Int64.ofInt_add a b
theorem zL_sub (a b : Int) : zL (a - b) = zL a - zL b := Int64.ofInt_sub a b
theorem zL_mul (a b : Int) : zL (a * b) = zL a * zL b := Int64.ofInt_mul a b
theorem zI_toInt {a : Int} (h : inI a) : (zI a).toInt = a := Int32.toInt_ofInt_of_le h.1 h.2
theorem zL_toInt {a : Int} (h : inL a) : (zL a).toInt = a := Int64.toInt_ofInt_of_le h.1 h.2
theorem zI_ofToInt (x : Int32) : zI x.toInt = x := Int32.ofInt_toInt x
theorem zL_ofToInt (x : Int64) : zL x.toInt = x := Int64.ofInt_toInt x
theorem inI_toInt (x : Int32) : inI x.toInt := ⟨Int32.le_toInt x, Int32.toInt_lt x⟩
theorem zI_eq {a b : Int} (ha : inI a) (hb : inI b) : zI a = zI b ↔ a = b := by
  rw [← Int32.toInt_inj, zI_toInt ha, zI_toInt hb]
theorem zI_lt {a b : Int} (ha : inI a) (hb : inI b) : zI a < zI b ↔ a < b := by
  rw [Int32.lt_iff_toInt_lt, zI_toInt ha, zI_toInt hb]
theorem zI_le {a b : Int} (ha : inI a) (hb : inI b) : zI a ≤ zI b ↔ a ≤ b := by
  rw [Int32.le_iff_toInt_le, zI_toInt ha, zI_toInt hb]
theorem zL_eq {a b : Int} (ha : inL a) (hb : inL b) : zL a = zL b ↔ a = b := by
  rw [← Int64.toInt_inj, zL_toInt ha, zL_toInt hb]
theorem zL_lt {a b : Int} (ha : inL a) (hb : inL b) : zL a < zL b ↔ a < b := by
  rw [Int64.lt_iff_toInt_lt, zL_toInt ha, zL_toInt hb]
theorem inI_0 : inI 0 := ⟨by decide, by decide⟩
theorem inL_0 : inL 0 := ⟨by decide, by decide⟩
theorem mxI : Int32.maxValue.toInt = 2147483647 := by decide
theorem mnI : Int32.minValue.toInt = -2147483648 := by decide
theorem mxL : Int64.maxValue.toInt = 9223372036854775807 := by decide
theorem mnL : Int64.minValue.toInt = -9223372036854775808 := by decide
theorem zI_0 : zI 0 = 0 := rfl
theorem zI_toL {a : Int} (h : inI a) : (zI a).toInt64 = zL a := by
  apply Int64.toInt_inj.mp
  rw [Int32.toInt_toInt64, zI_toInt h, zL_toInt]
  exact ⟨by have := h.1; omega, by have := h.2; omega⟩
theorem zI_tdiv {a b : Int} (ha : inI a) (hb : inI b) : zI (a.tdiv b) = zI a / zI b := by
  refine Int32.ofInt_tdiv ?_ ?_ ?_ ?_
  · rw [mnI]; exact ha.1
  · rw [mxI]; have := ha.2; omega
  · rw [mnI]; exact hb.1
  · rw [mxI]; have := hb.2; omega
theorem zL_tdiv {a b : Int} (ha : inL a) (hb : inL b) : zL (a.tdiv b) = zL a / zL b := by
  refine Int64.ofInt_tdiv ?_ ?_ ?_ ?_
  · rw [mnL]; exact ha.1
  · rw [mxL]; have := ha.2; omega
  · rw [mnL]; exact hb.1
  · rw [mxL]; have := hb.2; omega
theorem zI_clamp {z : Int} (h : 0 ≤ z) (h2 : z < 2147483648) : (zI z).toNatClampNeg = z.toNat := by
  have : (zI z).toInt = z := zI_toInt ⟨by omega, h2⟩
  unfold Int32.toNatClampNeg
  rw [this]
theorem zI_in {z : Int} {n : Nat} (h : 0 ≤ z) (h2 : z < 2147483648) (h3 : z < n) : vp_in (zI z) n := by
  intro q
  rcases q with q | q
  · rw [show (0 : Int32) = zI 0 from rfl, zI_lt ⟨by omega, h2⟩ inI_0] at q
    omega
  · rw [zI_clamp h h2] at q
    omega
theorem mem_aLf {j : Nat} {w : Value} : ∀ (L : pL) (i : Nat), (j, w) ∈ aLf i L ↔ ∃ k v, j = i + k ∧ L[k]? = some (some v) ∧ w = mv v := by
  intro L
  induction L with
  | nil => intro i; simp [aLf]
  | cons x L ih =>
    intro i
    cases x with
    | none =>
      rw [aLf, ih]
      constructor
      · rintro ⟨k, v, h1, h2, h3⟩
        exact ⟨k + 1, v, by omega, by simpa using h2, h3⟩
      · rintro ⟨k, v, h1, h2, h3⟩
        cases k with
        | zero => simp at h2
        | succ k => exact ⟨k, v, by omega, by simpa using h2, h3⟩
    | some x =>
      rw [aLf, List.mem_cons, ih]
      constructor
      · rintro (h | ⟨k, v, h1, h2, h3⟩)
        · obtain ⟨rfl, rfl⟩ := Prod.mk.inj h
          exact ⟨0, x, rfl, rfl, rfl⟩
        · exact ⟨k + 1, v, by omega, by simpa using h2, h3⟩
      · rintro ⟨k, v, h1, h2, h3⟩
        cases k with
        | zero =>
          simp at h2
          subst h2
          exact Or.inl (by rw [h3, h1]; rfl)
        | succ k => exact Or.inr ⟨k, v, by omega, by simpa using h2, h3⟩
theorem aLf_get {ls : Array Slot} {nL : Nat} {L : pL} (h : lv_has ls nL (aLf 0 L)) {i : Nat} {v : pV} (hv : L[i]? = some (some v)) : ls[i]? = some (.val (mv v)) :=
  h.2.2 (i, mv v) ((mem_aLf L 0).mpr ⟨i, v, by omega, hv, rfl⟩)
theorem lv_less {ls : Array Slot} {nL : Nat} {l l' : List (Nat × Value)} (h : lv_has ls nL l) (hs : ∀ q ∈ l', q ∈ l) : lv_has ls nL l' := ⟨h.1, h.2.1, fun q hq => h.2.2 q (hs q hq)⟩
/-- is the place a long's -/
def isLg : Option (Option pV) → Bool
  | some (some (.inr (.inl _))) => true
  | _ => false
theorem aLf_set1 {ls : Array Slot} {nL : Nat} {L : pL} {i : Nat} {v : pV} (hi : i < L.length) (hp : i = 0 ∨ isLg L[i - 1]? = false)
    (h : lv_has ls nL ((i, mv v) :: (aLf 0 L).filter (fun q => !(q.1 == i) && !(q.1 + 1 == i && q.2.category == 2)))) : lv_has ls nL (aLf 0 (L.set i (some v))) := by
  refine lv_less h fun q hq => ?_
  obtain ⟨j, w⟩ := q
  obtain ⟨k, u, h1, h2, h3⟩ := (mem_aLf _ 0).mp hq
  rw [Nat.zero_add] at h1
  subst h1
  by_cases hk : j = i
  · subst hk
    rw [List.getElem?_set_self hi] at h2
    cases h2
    rw [h3]
    exact List.mem_cons_self
  · rw [List.getElem?_set_ne (fun z => hk z.symm)] at h2
    refine List.mem_cons_of_mem _ (List.mem_filter.mpr ⟨(mem_aLf L 0).mpr ⟨j, u, by omega, h2, h3⟩, ?_⟩)
    simp only [Bool.and_eq_true, Bool.not_eq_true', beq_eq_false_iff_ne, ne_eq, Bool.and_eq_false_iff]
    refine ⟨hk, ?_⟩
    by_cases hj : j + 1 = i
    · right
      rcases hp with hp | hp
      · omega
      · rw [show i - 1 = j by omega, h2] at hp
        rw [h3]
        rcases u with u | u | u
        · simp [mv, Value.category]
        · simp [isLg] at hp
        · simp [mv, Value.category]
    · exact Or.inl hj
theorem aLf_set2 {ls : Array Slot} {nL : Nat} {L : pL} {i : Nat} {v : pV} (hi : i + 1 < L.length) (hp : i = 0 ∨ isLg L[i - 1]? = false)
    (h : lv_has ls nL ((i, mv v) :: (aLf 0 L).filter (fun q => !(q.1 == i) && (!(q.1 == i + 1) && !(q.1 + 1 == i && q.2.category == 2))))) : lv_has ls nL (aLf 0 ((L.set i (some v)).set (i + 1) none)) := by
  refine lv_less h fun q hq => ?_
  obtain ⟨j, w⟩ := q
  obtain ⟨k, u, h1, h2, h3⟩ := (mem_aLf _ 0).mp hq
  rw [Nat.zero_add] at h1
  subst h1
  by_cases hk1 : j = i + 1
  · subst hk1
    rw [List.getElem?_set_self (by simpa using hi)] at h2
    cases h2
  · rw [List.getElem?_set_ne (fun z => hk1 z.symm)] at h2
    by_cases hk : j = i
    · subst hk
      rw [List.getElem?_set_self (by omega)] at h2
      cases h2
      rw [h3]
      exact List.mem_cons_self
    · rw [List.getElem?_set_ne (fun z => hk z.symm)] at h2
      refine List.mem_cons_of_mem _ (List.mem_filter.mpr ⟨(mem_aLf L 0).mpr ⟨j, u, by omega, h2, h3⟩, ?_⟩)
      simp only [Bool.and_eq_true, Bool.not_eq_true', beq_eq_false_iff_ne, ne_eq, Bool.and_eq_false_iff]
      refine ⟨hk, hk1, ?_⟩
      by_cases hj : j + 1 = i
      · right
        rcases hp with hp | hp
        · omega
        · rw [show i - 1 = j by omega, h2] at hp
          rw [h3]
          rcases u with u | u | u
          · simp [mv, Value.category]
          · simp [isLg] at hp
          · simp [mv, Value.category]
      · exact Or.inl hj
theorem mw_get {cA : ClassId} {σ : pS} {q a : Nat} {x : pC} (h : σ[q]? = some (a, x)) : (mw cA σ)[q]? = some (a, mcl cA x) := by
  rw [mw, List.getElem?_map, h]; rfl
theorem mw_set {cA : ClassId} {σ : pS} {q a : Nat} {x : pC} : mw cA (σ.set q (a, x)) = (mw cA σ).set q (a, mcl cA x) := by
  rw [mw, mw, List.map_set]
/-- the judgement at a place of a body: from every heap that holds σ, with locals L and stack st, the machine comes to its end -/
def pQ (D : va_G) (cA : ClassId) (as : List Nat) (A : Nat → Prop) (Post : Option pV → pS → Prop) : Array Value → State → Outcome → State → Prop := fun _ st oc t =>
  (∃ (r : Option pV) (u : pS), oc = .returned (r.map mv) ∧ Post r u ∧ u.map Prod.fst = as ∧ va_P D vwCl (mw cA u) t.heap) ∧ va_F A st t
def pOk (p : Program) (l : Launch) (e : Env) (R : Room) (s : State) (m : MethodId) (args : Array Value) (below : List Frame) (meth : Method) (c : Code) (D : va_G) (cA : ClassId) (as : List Nat) (A : Nat → Prop) (nL : Nat) (Post : Option pV → pS → Prop) (pc : Nat) (L : pL) (st : List pV) (σ : pS) : Prop :=
  ∀ (H : Heap) (locs : List Loc) (ls : Array Slot), va_P D vwCl (mw cA σ) H → va_D A (mw cA σ) → va_S A s.heap H locs → lv_has ls nL (aLf 0 L) → σ.map Prod.fst = as → L.length = nL →
    W p l e R s m args below meth c H locs 0 0 (MQ below (pQ D cA as A Post) args s 0 0 A) (F0 m pc ls (st.map mv))
/-- the links to a nest mate's private methods -/
def pNw (U : State) : Prop := ∀ q ∈ pNests, va_Nw (.methodLinkNest q.1 q.2.1 q.2.2.1 q.2.2.2) U
theorem pNw.warm {s U : State} (hW : s.WarmedH U.vm) (h : pNw s) : pNw U := fun q hq => va_Nw.warmM hW (h q hq)
theorem pNw.same {u U : State} (he : u.vm = U.vm) (h : pNw u) : pNw U := fun q hq => va_Nw.same rfl he (h q hq)
def pFx (p : Program) (s : State) (m : MethodId) (args : Array Value) (meth : Method) (c : Code) (D : va_G) (cA : ClassId) (A : Nat → Prop) (own : String) (cc : ByteArray) (ws : List Cond) (nL : Nat) (ret : Option FieldType) : Prop :=
  p.tables.exec = Jvm.exec ∧ c.code = cc ∧ s.vm.findClass own = some m.cls ∧ (∀ w ∈ ws, w.before args s = true) ∧ va_K D vwCl [(cA, .int)] s ∧ c.maxLocals = nL ∧ (∀ q, s.heap.size ≤ q → A q) ∧ meth.sig.returnType = ret ∧ meth.locks = false ∧ pNw s
abbrev pJ : Type := Nat → pL → List pV → pS → Prop
abbrev pN : Type := pL → List pV → pS → Prop
abbrev pR : Type := Option pV → pS → Prop
abbrev pAct : Type := pL → List pV → pS → pN → pJ → pR → Prop
/-- an action is sound at an instruction of a body -/
def pSnd (l : Launch) (R : Room) (own : String) (cc : ByteArray) (ws : List Cond) (nL : Nat) (ret : Option FieldType) (pc len : Nat) (act : pAct) : Prop :=
  ∀ (p : Program) (e : Env) (s : State) (m : MethodId) (args : Array Value) (below : List Frame) (meth : Method) (c : Code) (D : va_G) (cA : ClassId) (as : List Nat) (A : Nat → Prop), pFx p s m args meth c D cA A own cc ws nL ret →
    ∀ (L : pL) (st : List pV) (σ : pS) (nx : pN) (J : pJ) (Post : pR), act L st σ nx J Post →
      (∀ L st σ, nx L st σ → pOk p l e R s m args below meth c D cA as A nL Post (pc + len) L st σ) →
      (∀ t L st σ, J t L st σ → pOk p l e R s m args below meth c D cA as A nL Post t L st σ) →
      pOk p l e R s m args below meth c D cA as A nL Post pc L st σ
abbrev pProg : Type := List (Nat × Nat × pAct)
def seg : pProg → pL → List pV → pS → pJ → pR → Prop
  | [], _, _, _, _, _ => False
  | q :: r, L, st, σ, J, Post => q.2.2 L st σ (fun L st σ => seg r L st σ J Post) J Post
theorem seg_cons (a b : Nat) (f : pAct) (r : pProg) (L : pL) (st : List pV) (σ : pS) (J : pJ) (Post : pR) : seg ((a, b, f) :: r) L st σ J Post = f L st σ (fun L st σ => seg r L st σ J Post) J Post := rfl
def AllS (Sn : Nat → Nat → pAct → Prop) : Nat → pProg → Prop
  | _, [] => True
  | pc, q :: r => q.1 = pc ∧ Sn q.1 q.2.1 q.2.2 ∧ AllS Sn (pc + q.2.1) r
theorem alls (Sn : Nat → Nat → pAct → Prop) {pc len : Nat} {f : pAct} {r : pProg} (h : Sn pc len f) (hr : AllS Sn (pc + len) r) : AllS Sn pc ((pc, len, f) :: r) := ⟨rfl, h, hr⟩
theorem alls_nil (Sn : Nat → Nat → pAct → Prop) {pc : Nat} : AllS Sn pc [] := trivial
theorem seg_ok {l : Launch} {R : Room} {own : String} {cc : ByteArray} {ws : List Cond} {nL : Nat} {ret : Option FieldType} {p : Program} {e : Env} {s : State} {m : MethodId} {args : Array Value} {below : List Frame} {meth : Method} {c : Code} {D : va_G} {cA : ClassId} {as : List Nat} {A : Nat → Prop} (F : pFx p s m args meth c D cA A own cc ws nL ret) {J : pJ} {Post : pR} (hJ : ∀ t L st σ, J t L st σ → pOk p l e R s m args below meth c D cA as A nL Post t L st σ) :
    ∀ (k : pProg) (pc : Nat), AllS (pSnd l R own cc ws nL ret) pc k → ∀ (L : pL) (st : List pV) (σ : pS), seg k L st σ J Post → pOk p l e R s m args below meth c D cA as A nL Post pc L st σ := by
  intro k
  induction k with
  | nil => intro pc _ L st σ h; exact h.elim
  | cons q r ih =>
    intro pc h L st σ hs
    obtain ⟨a, len, f⟩ := q
    obtain ⟨rfl, h1, h2⟩ := h
    exact h1 p e s m args below meth c D cA as A F L st σ _ J Post hs (fun L st σ h => ih _ h2 L st σ h) hJ
/-- fewer known locals -/
def leL (L L' : pL) : Prop := L.length = L'.length ∧ ∀ (i : Nat) (v : pV), L[i]? = some (some v) → L'[i]? = some (some v)
theorem pOk_less {p : Program} {l : Launch} {e : Env} {R : Room} {s : State} {m : MethodId} {args : Array Value} {below : List Frame} {meth : Method} {c : Code} {D : va_G} {cA : ClassId} {as : List Nat} {A : Nat → Prop} {nL : Nat} {Post : pR} {pc : Nat} {L L' : pL} {st : List pV} {σ : pS} (h : leL L L') (k : pOk p l e R s m args below meth c D cA as A nL Post pc L st σ) : pOk p l e R s m args below meth c D cA as A nL Post pc L' st σ := by
  intro H locs ls hP hD hS hl ha hL
  refine k H locs ls hP hD hS (lv_less hl fun q hq => ?_) ha (h.1.trans hL)
  obtain ⟨j, w⟩ := q
  obtain ⟨k, u, h1, h2, h3⟩ := (mem_aLf _ 0).mp hq
  exact (mem_aLf _ 0).mpr ⟨k, u, h1, h.2 _ _ h2, h3⟩
/-- what a body's reading may use of the judgement J: blocks, and fewer locals -/
def pCl (K : List (Nat × pProg)) (J : pJ) (Post : pR) : Prop :=
  (∀ q ∈ K, ∀ J' : pJ, (∀ t L st σ, J' t L st σ → J t L st σ) → ∀ L st σ, seg q.2 L st σ J' Post → J q.1 L st σ) ∧ ∀ t L L' st σ, leL L L' → J t L st σ → J t L' st σ
/-- the locals at the entry -/
def entL : List pV → pL
  | [] => []
  | .inr (.inl z) :: vs => some (.inr (.inl z)) :: none :: entL vs
  | v :: vs => some v :: entL vs
def entN (nL : Nat) (vs : List pV) : pL := entL vs ++ List.replicate (nL - (entL vs).length) none
/-- a method's reading: what it needs so that it ends with Post -/
abbrev pT : Type := List pV → pS → pR → Prop
def pTr (K : List (Nat × pProg)) (nL : Nat) : pT := fun vs σ Post => ∀ J : pJ, pCl K J Post → J 0 (entN nL vs) [] σ
def pCtr (l : Launch) (y : MethodName) (ws : List Cond) (rm : Room) (nA : Nat) (T : pT) : Prop :=
  ∀ (D : va_G) (cA : ClassId) (vs : List pV) (σ : pS) (Post : pR) (sz : Nat), vs.length = nA → T vs σ Post →
    Met l y ws rm (va_Pc (vs.map mv) (fun U => U.heap.size = sz ∧ va_P D vwCl (mw cA σ) U.heap ∧ va_K D vwCl [(cA, .int)] U ∧ va_D (fun _ => True) (mw cA σ) ∧ pNw U)) (pQ D cA (σ.map Prod.fst) (va_A (mw cA σ) sz) Post) 0 0 (va_A (mw cA σ) sz)
