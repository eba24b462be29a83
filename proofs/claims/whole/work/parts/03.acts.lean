/-! ===== the actions of the instructions, and that they are sound ===== -/
def a_iconst (n : Int) : pAct := fun L st σ nx J Post => nx L (vI n :: st) σ
set_option maxHeartbeats 1000000 in
theorem s_iconst {l : Launch} {R : Room} {own : String} {cc : ByteArray} {ws : List Cond} {nL : Nat} {ret : Option FieldType} {pc : Nat} {n : Int} (hd : decode cc pc = .ok (.iconst n, 1)) : pSnd l R own cc ws nL ret pc 1 (a_iconst n) := by
  intro p e s m args below meth c D cA as A F L st σ nx J Post h hn hj
  obtain ⟨hx, hb, hown, hts, hK, hml, hA, hr, hlocks, hnw⟩ := F
  intro H locs ls hP hD hS hl ha hL
  exact lv_iconst hx hb hd rfl (hn _ _ _ h H locs ls hP hD hS hl ha hL)
set_option maxHeartbeats 1000000 in
theorem s_bipush {l : Launch} {R : Room} {own : String} {cc : ByteArray} {ws : List Cond} {nL : Nat} {ret : Option FieldType} {pc : Nat} {n : Int} (hv : (Int8.ofInt n).toInt32 = zI n) (hd : decode cc pc = .ok (.bipush n, 2)) : pSnd l R own cc ws nL ret pc 2 (a_iconst n) := by
  intro p e s m args below meth c D cA as A F L st σ nx J Post h hn hj
  obtain ⟨hx, hb, hown, hts, hK, hml, hA, hr, hlocks, hnw⟩ := F
  intro H locs ls hP hD hS hl ha hL
  exact lv_bipush hx hb hd hv (hn _ _ _ h H locs ls hP hD hS hl ha hL)
set_option maxHeartbeats 1000000 in
theorem s_sipush {l : Launch} {R : Room} {own : String} {cc : ByteArray} {ws : List Cond} {nL : Nat} {ret : Option FieldType} {pc : Nat} {n : Int} (hv : (Int16.ofInt n).toInt32 = zI n) (hd : decode cc pc = .ok (.sipush n, 3)) : pSnd l R own cc ws nL ret pc 3 (a_iconst n) := by
  intro p e s m args below meth c D cA as A F L st σ nx J Post h hn hj
  obtain ⟨hx, hb, hown, hts, hK, hml, hA, hr, hlocks, hnw⟩ := F
  intro H locs ls hP hD hS hl ha hL
  exact lv_sipush hx hb hd hv (hn _ _ _ h H locs ls hP hD hS hl ha hL)
set_option maxHeartbeats 1000000 in
theorem s_ldc {l : Launch} {R : Room} {own : String} {cc : ByteArray} {ws : List Cond} {nL : Nat} {ret : Option FieldType} {pc : Nat} {ix : Nat} {n : Int} (hv : Cond.constant own ix (zI n) ∈ ws) (hd : decode cc pc = .ok (.ldc ix, 2)) : pSnd l R own cc ws nL ret pc 2 (a_iconst n) := by
  intro p e s m args below meth c D cA as A F L st σ nx J Post h hn hj
  obtain ⟨hx, hb, hown, hts, hK, hml, hA, hr, hlocks, hnw⟩ := F
  intro H locs ls hP hD hS hl ha hL
  exact lv_ldc hx hb hown (hts _ hv) hd (hn _ _ _ h H locs ls hP hD hS hl ha hL)
set_option maxHeartbeats 1000000 in
theorem s_ldcw {l : Launch} {R : Room} {own : String} {cc : ByteArray} {ws : List Cond} {nL : Nat} {ret : Option FieldType} {pc : Nat} {ix : Nat} {n : Int} (hv : Cond.constant own ix (zI n) ∈ ws) (hd : decode cc pc = .ok (.ldc_w ix, 3)) : pSnd l R own cc ws nL ret pc 3 (a_iconst n) := by
  intro p e s m args below meth c D cA as A F L st σ nx J Post h hn hj
  obtain ⟨hx, hb, hown, hts, hK, hml, hA, hr, hlocks, hnw⟩ := F
  intro H locs ls hP hD hS hl ha hL
  exact lv_ldcw hx hb hown (hts _ hv) hd (hn _ _ _ h H locs ls hP hD hS hl ha hL)
def a_lconst (n : Int) : pAct := fun L st σ nx J Post => nx L (vL n :: st) σ
set_option maxHeartbeats 1000000 in
theorem s_lconst {l : Launch} {R : Room} {own : String} {cc : ByteArray} {ws : List Cond} {nL : Nat} {ret : Option FieldType} {pc : Nat} {k : Fin 2} {n : Int} (hv : Int64.ofNat (k : Nat) = zL n) (hd : decode cc pc = .ok (.lconst k, 1)) : pSnd l R own cc ws nL ret pc 1 (a_lconst n) := by
  intro p e s m args below meth c D cA as A F L st σ nx J Post h hn hj
  obtain ⟨hx, hb, hown, hts, hK, hml, hA, hr, hlocks, hnw⟩ := F
  intro H locs ls hP hD hS hl ha hL
  exact lv_lconst hx hb hd hv (hn _ _ _ h H locs ls hP hD hS hl ha hL)
set_option maxHeartbeats 1000000 in
theorem s_ldc2 {l : Launch} {R : Room} {own : String} {cc : ByteArray} {ws : List Cond} {nL : Nat} {ret : Option FieldType} {pc : Nat} {ix : Nat} {n : Int} (hv : Cond.constantLong own ix (zL n) ∈ ws) (hd : decode cc pc = .ok (.ldc2_w ix, 3)) : pSnd l R own cc ws nL ret pc 3 (a_lconst n) := by
  intro p e s m args below meth c D cA as A F L st σ nx J Post h hn hj
  obtain ⟨hx, hb, hown, hts, hK, hml, hA, hr, hlocks, hnw⟩ := F
  intro H locs ls hP hD hS hl ha hL
  exact lv_ldc2 hx hb hown (hts _ hv) hd (hn _ _ _ h H locs ls hP hD hS hl ha hL)
def a_load (i : Nat) : pAct := fun L st σ nx J Post => match L[i]? with
  | some (some v) => nx L (v :: st) σ
  | _ => False
theorem a_load_e {i : Nat} {L : pL} {st : List pV} {σ : pS} {nx : pN} {J : pJ} {Post : pR} (h : a_load i L st σ nx J Post) : ∃ v, L[i]? = some (some v) ∧ nx L (v :: st) σ := by
  unfold a_load at h
  split at h
  · exact ⟨_, by assumption, h⟩
  · exact h.elim
def a_iload (i : Nat) : pAct := fun L st σ nx J Post => match L[i]? with
  | some (some (.inl z)) => nx L (.inl z :: st) σ
  | _ => False
set_option maxHeartbeats 1000000 in
theorem s_iload_n {l : Launch} {R : Room} {own : String} {cc : ByteArray} {ws : List Cond} {nL : Nat} {ret : Option FieldType} {pc : Nat} {k : Fin 4} {i : Nat} (hi : (k : Nat) = i) (hd : decode cc pc = .ok (.iload_n k, 1)) : pSnd l R own cc ws nL ret pc 1 (a_iload i) := by
  intro p e s m args below meth c D cA as A F L st σ nx J Post h hn hj
  obtain ⟨hx, hb, hown, hts, hK, hml, hA, hr, hlocks, hnw⟩ := F
  unfold a_iload at h
  intro H locs ls hP hD hS hl ha hL
  split at h
  next z hv => exact lv_iload_n hx hb hd hi (aLf_get hl hv) (hn _ _ _ h H locs ls hP hD hS hl ha hL)
  next => exact h.elim
set_option maxHeartbeats 1000000 in
theorem s_iload {l : Launch} {R : Room} {own : String} {cc : ByteArray} {ws : List Cond} {nL : Nat} {ret : Option FieldType} {pc : Nat} {i : Nat} (hd : decode cc pc = .ok (.iload i, 2)) : pSnd l R own cc ws nL ret pc 2 (a_iload i) := by
  intro p e s m args below meth c D cA as A F L st σ nx J Post h hn hj
  obtain ⟨hx, hb, hown, hts, hK, hml, hA, hr, hlocks, hnw⟩ := F
  unfold a_iload at h
  intro H locs ls hP hD hS hl ha hL
  split at h
  next z hv => exact lv_iload hx hb hd (aLf_get hl hv) (hn _ _ _ h H locs ls hP hD hS hl ha hL)
  next => exact h.elim
def a_lload (i : Nat) : pAct := fun L st σ nx J Post => match L[i]? with
  | some (some (.inr (.inl z))) => nx L (.inr (.inl z) :: st) σ
  | _ => False
set_option maxHeartbeats 1000000 in
theorem s_lload_n {l : Launch} {R : Room} {own : String} {cc : ByteArray} {ws : List Cond} {nL : Nat} {ret : Option FieldType} {pc : Nat} {k : Fin 4} {i : Nat} (hi : (k : Nat) = i) (hd : decode cc pc = .ok (.lload_n k, 1)) : pSnd l R own cc ws nL ret pc 1 (a_lload i) := by
  intro p e s m args below meth c D cA as A F L st σ nx J Post h hn hj
  obtain ⟨hx, hb, hown, hts, hK, hml, hA, hr, hlocks, hnw⟩ := F
  unfold a_lload at h
  intro H locs ls hP hD hS hl ha hL
  split at h
  next z hv => exact lv_lload_n hx hb hd hi (aLf_get hl hv) (hn _ _ _ h H locs ls hP hD hS hl ha hL)
  next => exact h.elim
set_option maxHeartbeats 1000000 in
theorem s_lload {l : Launch} {R : Room} {own : String} {cc : ByteArray} {ws : List Cond} {nL : Nat} {ret : Option FieldType} {pc : Nat} {i : Nat} (hd : decode cc pc = .ok (.lload i, 2)) : pSnd l R own cc ws nL ret pc 2 (a_lload i) := by
  intro p e s m args below meth c D cA as A F L st σ nx J Post h hn hj
  obtain ⟨hx, hb, hown, hts, hK, hml, hA, hr, hlocks, hnw⟩ := F
  unfold a_lload at h
  intro H locs ls hP hD hS hl ha hL
  split at h
  next z hv => exact lv_lload hx hb hd (aLf_get hl hv) (hn _ _ _ h H locs ls hP hD hS hl ha hL)
  next => exact h.elim
def a_aload (i : Nat) : pAct := fun L st σ nx J Post => match L[i]? with
  | some (some (.inr (.inr z))) => nx L (.inr (.inr z) :: st) σ
  | _ => False
set_option maxHeartbeats 1000000 in
theorem s_aload_n {l : Launch} {R : Room} {own : String} {cc : ByteArray} {ws : List Cond} {nL : Nat} {ret : Option FieldType} {pc : Nat} {k : Fin 4} {i : Nat} (hi : (k : Nat) = i) (hd : decode cc pc = .ok (.aload_n k, 1)) : pSnd l R own cc ws nL ret pc 1 (a_aload i) := by
  intro p e s m args below meth c D cA as A F L st σ nx J Post h hn hj
  obtain ⟨hx, hb, hown, hts, hK, hml, hA, hr, hlocks, hnw⟩ := F
  unfold a_aload at h
  intro H locs ls hP hD hS hl ha hL
  split at h
  next z hv => exact lv_aload_n hx hb hd hi (aLf_get hl hv) (hn _ _ _ h H locs ls hP hD hS hl ha hL)
  next => exact h.elim
set_option maxHeartbeats 1000000 in
theorem s_aload {l : Launch} {R : Room} {own : String} {cc : ByteArray} {ws : List Cond} {nL : Nat} {ret : Option FieldType} {pc : Nat} {i : Nat} (hd : decode cc pc = .ok (.aload i, 2)) : pSnd l R own cc ws nL ret pc 2 (a_aload i) := by
  intro p e s m args below meth c D cA as A F L st σ nx J Post h hn hj
  obtain ⟨hx, hb, hown, hts, hK, hml, hA, hr, hlocks, hnw⟩ := F
  unfold a_aload at h
  intro H locs ls hP hD hS hl ha hL
  split at h
  next z hv => exact lv_aload hx hb hd (aLf_get hl hv) (hn _ _ _ h H locs ls hP hD hS hl ha hL)
  next => exact h.elim
def a_istore (i : Nat) : pAct := fun L st σ nx J Post => match st with
  | .inl z :: r => i < L.length ∧ (i = 0 ∨ isLg L[i - 1]? = false) ∧ nx (L.set i (some (.inl z))) r σ
  | _ => False
def a_lstore (i : Nat) : pAct := fun L st σ nx J Post => match st with
  | .inr (.inl z) :: r => i + 1 < L.length ∧ (i = 0 ∨ isLg L[i - 1]? = false) ∧ nx ((L.set i (some (.inr (.inl z)))).set (i + 1) none) r σ
  | _ => False
def a_astore (i : Nat) : pAct := fun L st σ nx J Post => match st with
  | .inr (.inr z) :: r => i < L.length ∧ (i = 0 ∨ isLg L[i - 1]? = false) ∧ nx (L.set i (some (.inr (.inr z)))) r σ
  | _ => False
set_option maxHeartbeats 1000000 in
theorem s_istore_n {l : Launch} {R : Room} {own : String} {cc : ByteArray} {ws : List Cond} {nL : Nat} {ret : Option FieldType} {pc : Nat} {k : Fin 4} {i : Nat} (hi : (k : Nat) = i) (hd : decode cc pc = .ok (.istore_n k, 1)) : pSnd l R own cc ws nL ret pc 1 (a_istore i) := by
  intro p e s m args below meth c D cA as A F L st σ nx J Post h hn hj
  obtain ⟨hx, hb, hown, hts, hK, hml, hA, hr, hlocks, hnw⟩ := F
  unfold a_istore at h
  intro H locs ls hP hD hS hl ha hL
  split at h
  next z r =>
    obtain ⟨h1, h2, h3⟩ := h
    exact lv_istore_n hx hb hd hi hl (hL ▸ h1) rfl (fun ls' hl' => hn _ _ _ h3 H locs ls' hP hD hS (aLf_set1 h1 h2 hl') ha (by simpa using hL))
  next => exact h.elim
set_option maxHeartbeats 1000000 in
theorem s_istore {l : Launch} {R : Room} {own : String} {cc : ByteArray} {ws : List Cond} {nL : Nat} {ret : Option FieldType} {pc : Nat} {i : Nat} (hd : decode cc pc = .ok (.istore i, 2)) : pSnd l R own cc ws nL ret pc 2 (a_istore i) := by
  intro p e s m args below meth c D cA as A F L st σ nx J Post h hn hj
  obtain ⟨hx, hb, hown, hts, hK, hml, hA, hr, hlocks, hnw⟩ := F
  unfold a_istore at h
  intro H locs ls hP hD hS hl ha hL
  split at h
  next z r =>
    obtain ⟨h1, h2, h3⟩ := h
    exact lv_istore hx hb hd hl (hL ▸ h1) rfl (fun ls' hl' => hn _ _ _ h3 H locs ls' hP hD hS (aLf_set1 h1 h2 hl') ha (by simpa using hL))
  next => exact h.elim
set_option maxHeartbeats 1000000 in
theorem s_lstore_n {l : Launch} {R : Room} {own : String} {cc : ByteArray} {ws : List Cond} {nL : Nat} {ret : Option FieldType} {pc : Nat} {k : Fin 4} {i : Nat} (hi : (k : Nat) = i) (hd : decode cc pc = .ok (.lstore_n k, 1)) : pSnd l R own cc ws nL ret pc 1 (a_lstore i) := by
  intro p e s m args below meth c D cA as A F L st σ nx J Post h hn hj
  obtain ⟨hx, hb, hown, hts, hK, hml, hA, hr, hlocks, hnw⟩ := F
  unfold a_lstore at h
  intro H locs ls hP hD hS hl ha hL
  split at h
  next z r =>
    obtain ⟨h1, h2, h3⟩ := h
    exact lv_lstore_n hx hb hd hi hl (hL ▸ h1) rfl (fun ls' hl' => hn _ _ _ h3 H locs ls' hP hD hS (aLf_set2 h1 h2 hl') ha (by simpa using hL))
  next => exact h.elim
set_option maxHeartbeats 1000000 in
theorem s_lstore {l : Launch} {R : Room} {own : String} {cc : ByteArray} {ws : List Cond} {nL : Nat} {ret : Option FieldType} {pc : Nat} {i : Nat} (hd : decode cc pc = .ok (.lstore i, 2)) : pSnd l R own cc ws nL ret pc 2 (a_lstore i) := by
  intro p e s m args below meth c D cA as A F L st σ nx J Post h hn hj
  obtain ⟨hx, hb, hown, hts, hK, hml, hA, hr, hlocks, hnw⟩ := F
  unfold a_lstore at h
  intro H locs ls hP hD hS hl ha hL
  split at h
  next z r =>
    obtain ⟨h1, h2, h3⟩ := h
    exact lv_lstore hx hb hd hl (hL ▸ h1) rfl (fun ls' hl' => hn _ _ _ h3 H locs ls' hP hD hS (aLf_set2 h1 h2 hl') ha (by simpa using hL))
  next => exact h.elim
set_option maxHeartbeats 1000000 in
theorem s_astore_n {l : Launch} {R : Room} {own : String} {cc : ByteArray} {ws : List Cond} {nL : Nat} {ret : Option FieldType} {pc : Nat} {k : Fin 4} {i : Nat} (hi : (k : Nat) = i) (hd : decode cc pc = .ok (.astore_n k, 1)) : pSnd l R own cc ws nL ret pc 1 (a_astore i) := by
  intro p e s m args below meth c D cA as A F L st σ nx J Post h hn hj
  obtain ⟨hx, hb, hown, hts, hK, hml, hA, hr, hlocks, hnw⟩ := F
  unfold a_astore at h
  intro H locs ls hP hD hS hl ha hL
  split at h
  next z r =>
    obtain ⟨h1, h2, h3⟩ := h
    exact lv_astore_n hx hb hd hi hl (hL ▸ h1) rfl (fun ls' hl' => hn _ _ _ h3 H locs ls' hP hD hS (aLf_set1 h1 h2 hl') ha (by simpa using hL))
  next => exact h.elim
set_option maxHeartbeats 1000000 in
theorem s_astore {l : Launch} {R : Room} {own : String} {cc : ByteArray} {ws : List Cond} {nL : Nat} {ret : Option FieldType} {pc : Nat} {i : Nat} (hd : decode cc pc = .ok (.astore i, 2)) : pSnd l R own cc ws nL ret pc 2 (a_astore i) := by
  intro p e s m args below meth c D cA as A F L st σ nx J Post h hn hj
  obtain ⟨hx, hb, hown, hts, hK, hml, hA, hr, hlocks, hnw⟩ := F
  unfold a_astore at h
  intro H locs ls hP hD hS hl ha hL
  split at h
  next z r =>
    obtain ⟨h1, h2, h3⟩ := h
    exact lv_astore hx hb hd hl (hL ▸ h1) rfl (fun ls' hl' => hn _ _ _ h3 H locs ls' hP hD hS (aLf_set1 h1 h2 hl') ha (by simpa using hL))
  next => exact h.elim
def a_iinc (i : Nat) (n : Int) : pAct := fun L st σ nx J Post => match L[i]? with
  | some (some (.inl z)) => i < L.length ∧ (i = 0 ∨ isLg L[i - 1]? = false) ∧ nx (L.set i (some (.inl (z + n)))) st σ
  | _ => False
set_option maxHeartbeats 1000000 in
theorem s_iinc {l : Launch} {R : Room} {own : String} {cc : ByteArray} {ws : List Cond} {nL : Nat} {ret : Option FieldType} {pc : Nat} {i : Nat} {n : Int} (hd : decode cc pc = .ok (.iinc i n, 3)) : pSnd l R own cc ws nL ret pc 3 (a_iinc i n) := by
  intro p e s m args below meth c D cA as A F L st σ nx J Post h hn hj
  obtain ⟨hx, hb, hown, hts, hK, hml, hA, hr, hlocks, hnw⟩ := F
  unfold a_iinc at h
  intro H locs ls hP hD hS hl ha hL
  split at h
  next z hv =>
    obtain ⟨h1, h2, h3⟩ := h
    obtain ⟨k, hk⟩ := List.getElem?_of_mem ((mem_aLf (j := i) (w := mv (.inl z)) L 0).mpr ⟨i, .inl z, (Nat.zero_add i).symm, hv, rfl⟩)
    exact lv_iinc hx hb hd hl hk (v := zI (z + n)) (by rw [zI_add]; rfl) (hL ▸ h1) rfl (fun ls' hl' => hn _ _ _ h3 H locs ls' hP hD hS (aLf_set1 h1 h2 hl') ha (by simpa using hL))
  next => exact h.elim
def a_iadd : pAct := fun L st σ nx J Post => match st with
  | .inl b :: .inl a :: r => nx L (vI (a + b) :: r) σ
  | _ => False
set_option maxHeartbeats 1000000 in
theorem s_iadd {l : Launch} {R : Room} {own : String} {cc : ByteArray} {ws : List Cond} {nL : Nat} {ret : Option FieldType} {pc : Nat} (hd : decode cc pc = .ok (.iadd, 1)) : pSnd l R own cc ws nL ret pc 1 (a_iadd) := by
  intro p e s m args below meth c D cA as A F L st σ nx J Post h hn hj
  obtain ⟨hx, hb, hown, hts, hK, hml, hA, hr, hlocks, hnw⟩ := F
  unfold a_iadd at h
  intro H locs ls hP hD hS hl ha hL
  split at h
  next b a r =>
    exact lv_iadd hx hb hd (by have k := hn _ _ _ h H locs ls hP hD hS hl ha hL; simp only [List.map_cons, mv, zI_add] at k; exact k)
  next => exact h.elim
def a_isub : pAct := fun L st σ nx J Post => match st with
  | .inl b :: .inl a :: r => nx L (vI (a - b) :: r) σ
  | _ => False
set_option maxHeartbeats 1000000 in
theorem s_isub {l : Launch} {R : Room} {own : String} {cc : ByteArray} {ws : List Cond} {nL : Nat} {ret : Option FieldType} {pc : Nat} (hd : decode cc pc = .ok (.isub, 1)) : pSnd l R own cc ws nL ret pc 1 (a_isub) := by
  intro p e s m args below meth c D cA as A F L st σ nx J Post h hn hj
  obtain ⟨hx, hb, hown, hts, hK, hml, hA, hr, hlocks, hnw⟩ := F
  unfold a_isub at h
  intro H locs ls hP hD hS hl ha hL
  split at h
  next b a r =>
    exact lv_isub hx hb hd (by have k := hn _ _ _ h H locs ls hP hD hS hl ha hL; simp only [List.map_cons, mv, zI_sub] at k; exact k)
  next => exact h.elim
def a_imul : pAct := fun L st σ nx J Post => match st with
  | .inl b :: .inl a :: r => nx L (vI (a * b) :: r) σ
  | _ => False
set_option maxHeartbeats 1000000 in
theorem s_imul {l : Launch} {R : Room} {own : String} {cc : ByteArray} {ws : List Cond} {nL : Nat} {ret : Option FieldType} {pc : Nat} (hd : decode cc pc = .ok (.imul, 1)) : pSnd l R own cc ws nL ret pc 1 (a_imul) := by
  intro p e s m args below meth c D cA as A F L st σ nx J Post h hn hj
  obtain ⟨hx, hb, hown, hts, hK, hml, hA, hr, hlocks, hnw⟩ := F
  unfold a_imul at h
  intro H locs ls hP hD hS hl ha hL
  split at h
  next b a r =>
    exact lv_imul hx hb hd (by have k := hn _ _ _ h H locs ls hP hD hS hl ha hL; simp only [List.map_cons, mv, zI_mul] at k; exact k)
  next => exact h.elim
def a_ladd : pAct := fun L st σ nx J Post => match st with
  | .inr (.inl b) :: .inr (.inl a) :: r => nx L (vL (a + b) :: r) σ
  | _ => False
set_option maxHeartbeats 1000000 in
theorem s_ladd {l : Launch} {R : Room} {own : String} {cc : ByteArray} {ws : List Cond} {nL : Nat} {ret : Option FieldType} {pc : Nat} (hd : decode cc pc = .ok (.ladd, 1)) : pSnd l R own cc ws nL ret pc 1 (a_ladd) := by
  intro p e s m args below meth c D cA as A F L st σ nx J Post h hn hj
  obtain ⟨hx, hb, hown, hts, hK, hml, hA, hr, hlocks, hnw⟩ := F
  unfold a_ladd at h
  intro H locs ls hP hD hS hl ha hL
  split at h
  next b a r =>
    exact lv_ladd hx hb hd (by have k := hn _ _ _ h H locs ls hP hD hS hl ha hL; simp only [List.map_cons, mv, zL_add] at k; exact k)
  next => exact h.elim
def a_lsub : pAct := fun L st σ nx J Post => match st with
  | .inr (.inl b) :: .inr (.inl a) :: r => nx L (vL (a - b) :: r) σ
  | _ => False
set_option maxHeartbeats 1000000 in
theorem s_lsub {l : Launch} {R : Room} {own : String} {cc : ByteArray} {ws : List Cond} {nL : Nat} {ret : Option FieldType} {pc : Nat} (hd : decode cc pc = .ok (.lsub, 1)) : pSnd l R own cc ws nL ret pc 1 (a_lsub) := by
  intro p e s m args below meth c D cA as A F L st σ nx J Post h hn hj
  obtain ⟨hx, hb, hown, hts, hK, hml, hA, hr, hlocks, hnw⟩ := F
  unfold a_lsub at h
  intro H locs ls hP hD hS hl ha hL
  split at h
  next b a r =>
    exact lv_lsub hx hb hd (by have k := hn _ _ _ h H locs ls hP hD hS hl ha hL; simp only [List.map_cons, mv, zL_sub] at k; exact k)
  next => exact h.elim
def a_lmul : pAct := fun L st σ nx J Post => match st with
  | .inr (.inl b) :: .inr (.inl a) :: r => nx L (vL (a * b) :: r) σ
  | _ => False
set_option maxHeartbeats 1000000 in
theorem s_lmul {l : Launch} {R : Room} {own : String} {cc : ByteArray} {ws : List Cond} {nL : Nat} {ret : Option FieldType} {pc : Nat} (hd : decode cc pc = .ok (.lmul, 1)) : pSnd l R own cc ws nL ret pc 1 (a_lmul) := by
  intro p e s m args below meth c D cA as A F L st σ nx J Post h hn hj
  obtain ⟨hx, hb, hown, hts, hK, hml, hA, hr, hlocks, hnw⟩ := F
  unfold a_lmul at h
  intro H locs ls hP hD hS hl ha hL
  split at h
  next b a r =>
    exact lv_lmul hx hb hd (by have k := hn _ _ _ h H locs ls hP hD hS hl ha hL; simp only [List.map_cons, mv, zL_mul] at k; exact k)
  next => exact h.elim
def a_iand : pAct := fun L st σ nx J Post => match st with
  | .inl b :: .inl a :: r => nx L (vI ((zI a &&& zI b).toInt) :: r) σ
  | _ => False
set_option maxHeartbeats 1000000 in
theorem s_iand {l : Launch} {R : Room} {own : String} {cc : ByteArray} {ws : List Cond} {nL : Nat} {ret : Option FieldType} {pc : Nat} (hd : decode cc pc = .ok (.iand, 1)) : pSnd l R own cc ws nL ret pc 1 (a_iand) := by
  intro p e s m args below meth c D cA as A F L st σ nx J Post h hn hj
  obtain ⟨hx, hb, hown, hts, hK, hml, hA, hr, hlocks, hnw⟩ := F
  unfold a_iand at h
  intro H locs ls hP hD hS hl ha hL
  split at h
  next b a r =>
    exact lv_iand hx hb hd (by have k := hn _ _ _ h H locs ls hP hD hS hl ha hL; simp only [List.map_cons, mv, zI_ofToInt] at k; exact k)
  next => exact h.elim
def a_ior : pAct := fun L st σ nx J Post => match st with
  | .inl b :: .inl a :: r => nx L (vI ((zI a ||| zI b).toInt) :: r) σ
  | _ => False
set_option maxHeartbeats 1000000 in
theorem s_ior {l : Launch} {R : Room} {own : String} {cc : ByteArray} {ws : List Cond} {nL : Nat} {ret : Option FieldType} {pc : Nat} (hd : decode cc pc = .ok (.ior, 1)) : pSnd l R own cc ws nL ret pc 1 (a_ior) := by
  intro p e s m args below meth c D cA as A F L st σ nx J Post h hn hj
  obtain ⟨hx, hb, hown, hts, hK, hml, hA, hr, hlocks, hnw⟩ := F
  unfold a_ior at h
  intro H locs ls hP hD hS hl ha hL
  split at h
  next b a r =>
    exact lv_ior hx hb hd (by have k := hn _ _ _ h H locs ls hP hD hS hl ha hL; simp only [List.map_cons, mv, zI_ofToInt] at k; exact k)
  next => exact h.elim
def a_ixor : pAct := fun L st σ nx J Post => match st with
  | .inl b :: .inl a :: r => nx L (vI ((zI a ^^^ zI b).toInt) :: r) σ
  | _ => False
set_option maxHeartbeats 1000000 in
theorem s_ixor {l : Launch} {R : Room} {own : String} {cc : ByteArray} {ws : List Cond} {nL : Nat} {ret : Option FieldType} {pc : Nat} (hd : decode cc pc = .ok (.ixor, 1)) : pSnd l R own cc ws nL ret pc 1 (a_ixor) := by
  intro p e s m args below meth c D cA as A F L st σ nx J Post h hn hj
  obtain ⟨hx, hb, hown, hts, hK, hml, hA, hr, hlocks, hnw⟩ := F
  unfold a_ixor at h
  intro H locs ls hP hD hS hl ha hL
  split at h
  next b a r =>
    exact lv_ixor hx hb hd (by have k := hn _ _ _ h H locs ls hP hD hS hl ha hL; simp only [List.map_cons, mv, zI_ofToInt] at k; exact k)
  next => exact h.elim
def a_ishl : pAct := fun L st σ nx J Post => match st with
  | .inl b :: .inl a :: r => nx L (vI ((zI a <<< (zI b &&& 31)).toInt) :: r) σ
  | _ => False
set_option maxHeartbeats 1000000 in
theorem s_ishl {l : Launch} {R : Room} {own : String} {cc : ByteArray} {ws : List Cond} {nL : Nat} {ret : Option FieldType} {pc : Nat} (hd : decode cc pc = .ok (.ishl, 1)) : pSnd l R own cc ws nL ret pc 1 (a_ishl) := by
  intro p e s m args below meth c D cA as A F L st σ nx J Post h hn hj
  obtain ⟨hx, hb, hown, hts, hK, hml, hA, hr, hlocks, hnw⟩ := F
  unfold a_ishl at h
  intro H locs ls hP hD hS hl ha hL
  split at h
  next b a r =>
    exact lv_ishl hx hb hd (by have k := hn _ _ _ h H locs ls hP hD hS hl ha hL; simp only [List.map_cons, mv, zI_ofToInt] at k; exact k)
  next => exact h.elim
def a_ishr : pAct := fun L st σ nx J Post => match st with
  | .inl b :: .inl a :: r => nx L (vI ((zI a >>> (zI b &&& 31)).toInt) :: r) σ
  | _ => False
set_option maxHeartbeats 1000000 in
theorem s_ishr {l : Launch} {R : Room} {own : String} {cc : ByteArray} {ws : List Cond} {nL : Nat} {ret : Option FieldType} {pc : Nat} (hd : decode cc pc = .ok (.ishr, 1)) : pSnd l R own cc ws nL ret pc 1 (a_ishr) := by
  intro p e s m args below meth c D cA as A F L st σ nx J Post h hn hj
  obtain ⟨hx, hb, hown, hts, hK, hml, hA, hr, hlocks, hnw⟩ := F
  unfold a_ishr at h
  intro H locs ls hP hD hS hl ha hL
  split at h
  next b a r =>
    exact lv_ishr hx hb hd (by have k := hn _ _ _ h H locs ls hP hD hS hl ha hL; simp only [List.map_cons, mv, zI_ofToInt] at k; exact k)
  next => exact h.elim
def a_iushr : pAct := fun L st σ nx J Post => match st with
  | .inl b :: .inl a :: r => nx L (vI (((zI a).toUInt32 >>> ((zI b).toUInt32 &&& Int32.toUInt32 31)).toInt32.toInt) :: r) σ
  | _ => False
set_option maxHeartbeats 1000000 in
theorem s_iushr {l : Launch} {R : Room} {own : String} {cc : ByteArray} {ws : List Cond} {nL : Nat} {ret : Option FieldType} {pc : Nat} (hd : decode cc pc = .ok (.iushr, 1)) : pSnd l R own cc ws nL ret pc 1 (a_iushr) := by
  intro p e s m args below meth c D cA as A F L st σ nx J Post h hn hj
  obtain ⟨hx, hb, hown, hts, hK, hml, hA, hr, hlocks, hnw⟩ := F
  unfold a_iushr at h
  intro H locs ls hP hD hS hl ha hL
  split at h
  next b a r =>
    exact lv_iushr hx hb hd rfl (by have k := hn _ _ _ h H locs ls hP hD hS hl ha hL; simp only [List.map_cons, mv, zI_ofToInt] at k; exact k)
  next => exact h.elim
def a_idiv : pAct := fun L st σ nx J Post => match st with
  | .inl b :: .inl a :: r => 0 ≤ a ∧ inI a ∧ 0 < b ∧ inI b ∧ nx L (vI (a / b) :: r) σ
  | _ => False
set_option maxHeartbeats 1000000 in
theorem s_idiv {l : Launch} {R : Room} {own : String} {cc : ByteArray} {ws : List Cond} {nL : Nat} {ret : Option FieldType} {pc : Nat} (hd : decode cc pc = .ok (.idiv, 1)) : pSnd l R own cc ws nL ret pc 1 (a_idiv) := by
  intro p e s m args below meth c D cA as A F L st σ nx J Post h hn hj
  obtain ⟨hx, hb, hown, hts, hK, hml, hA, hr, hlocks, hnw⟩ := F
  unfold a_idiv at h
  intro H locs ls hP hD hS hl ha hL
  split at h
  next b a r =>
    obtain ⟨h1, h2, h3, h4, h5⟩ := h
    refine lv_idiv hx hb hd (fun z => ?_) ?_
    · rw [show (0 : Int32) = zI 0 from rfl, zI_eq h4 inI_0] at z
      omega
    · have k := hn _ _ _ h5 H locs ls hP hD hS hl ha hL
      rw [← zI_tdiv h2 h4, Int.tdiv_eq_ediv_of_nonneg h1]
      exact k
  next => exact h.elim
def a_irem : pAct := fun L st σ nx J Post => match st with
  | .inl b :: .inl a :: r => 0 ≤ a ∧ inI a ∧ 0 < b ∧ inI b ∧ nx L (vI (a % b) :: r) σ
  | _ => False
set_option maxHeartbeats 1000000 in
theorem s_irem {l : Launch} {R : Room} {own : String} {cc : ByteArray} {ws : List Cond} {nL : Nat} {ret : Option FieldType} {pc : Nat} (hd : decode cc pc = .ok (.irem, 1)) : pSnd l R own cc ws nL ret pc 1 (a_irem) := by
  intro p e s m args below meth c D cA as A F L st σ nx J Post h hn hj
  obtain ⟨hx, hb, hown, hts, hK, hml, hA, hr, hlocks, hnw⟩ := F
  unfold a_irem at h
  intro H locs ls hP hD hS hl ha hL
  split at h
  next b a r =>
    obtain ⟨h1, h2, h3, h4, h5⟩ := h
    refine lv_irem hx hb hd (fun z => ?_) ?_
    · rw [show (0 : Int32) = zI 0 from rfl, zI_eq h4 inI_0] at z
      omega
    · have k := hn _ _ _ h5 H locs ls hP hD hS hl ha hL
      rw [← zI_tdiv h2 h4, Int.tdiv_eq_ediv_of_nonneg h1, ← zI_mul, ← zI_sub, show a - a / b * b = a % b by rw [Int.emod_def, Int.mul_comm]]
      exact k
  next => exact h.elim
def a_ldiv : pAct := fun L st σ nx J Post => match st with
  | .inr (.inl b) :: .inr (.inl a) :: r => 0 ≤ a ∧ inL a ∧ 0 < b ∧ inL b ∧ nx L (vL (a / b) :: r) σ
  | _ => False
set_option maxHeartbeats 1000000 in
theorem s_ldiv {l : Launch} {R : Room} {own : String} {cc : ByteArray} {ws : List Cond} {nL : Nat} {ret : Option FieldType} {pc : Nat} (hd : decode cc pc = .ok (.ldiv, 1)) : pSnd l R own cc ws nL ret pc 1 (a_ldiv) := by
  intro p e s m args below meth c D cA as A F L st σ nx J Post h hn hj
  obtain ⟨hx, hb, hown, hts, hK, hml, hA, hr, hlocks, hnw⟩ := F
  unfold a_ldiv at h
  intro H locs ls hP hD hS hl ha hL
  split at h
  next b a r =>
    obtain ⟨h1, h2, h3, h4, h5⟩ := h
    refine lv_ldiv hx hb hd (fun z => ?_) ?_
    · rw [show (0 : Int64) = zL 0 from rfl, zL_eq h4 inL_0] at z
      omega
    · have k := hn _ _ _ h5 H locs ls hP hD hS hl ha hL
      rw [← zL_tdiv h2 h4, Int.tdiv_eq_ediv_of_nonneg h1]
      exact k
  next => exact h.elim
def a_lrem : pAct := fun L st σ nx J Post => match st with
  | .inr (.inl b) :: .inr (.inl a) :: r => 0 ≤ a ∧ inL a ∧ 0 < b ∧ inL b ∧ nx L (vL (a % b) :: r) σ
  | _ => False
set_option maxHeartbeats 1000000 in
theorem s_lrem {l : Launch} {R : Room} {own : String} {cc : ByteArray} {ws : List Cond} {nL : Nat} {ret : Option FieldType} {pc : Nat} (hd : decode cc pc = .ok (.lrem, 1)) : pSnd l R own cc ws nL ret pc 1 (a_lrem) := by
  intro p e s m args below meth c D cA as A F L st σ nx J Post h hn hj
  obtain ⟨hx, hb, hown, hts, hK, hml, hA, hr, hlocks, hnw⟩ := F
  unfold a_lrem at h
  intro H locs ls hP hD hS hl ha hL
  split at h
  next b a r =>
    obtain ⟨h1, h2, h3, h4, h5⟩ := h
    refine lv_lrem hx hb hd (fun z => ?_) ?_
    · rw [show (0 : Int64) = zL 0 from rfl, zL_eq h4 inL_0] at z
      omega
    · have k := hn _ _ _ h5 H locs ls hP hD hS hl ha hL
      rw [← zL_tdiv h2 h4, Int.tdiv_eq_ediv_of_nonneg h1, ← zL_mul, ← zL_sub, show a - a / b * b = a % b by rw [Int.emod_def, Int.mul_comm]]
      exact k
  next => exact h.elim
def a_ineg : pAct := fun L st σ nx J Post => match st with
  | .inl a :: r => nx L (vI (-a) :: r) σ
  | _ => False
set_option maxHeartbeats 1000000 in
theorem s_ineg {l : Launch} {R : Room} {own : String} {cc : ByteArray} {ws : List Cond} {nL : Nat} {ret : Option FieldType} {pc : Nat} (hd : decode cc pc = .ok (.ineg, 1)) : pSnd l R own cc ws nL ret pc 1 (a_ineg) := by
  intro p e s m args below meth c D cA as A F L st σ nx J Post h hn hj
  obtain ⟨hx, hb, hown, hts, hK, hml, hA, hr, hlocks, hnw⟩ := F
  unfold a_ineg at h
  intro H locs ls hP hD hS hl ha hL
  split at h
  next a r => exact lv_ineg hx hb hd (by have k := hn _ _ _ h H locs ls hP hD hS hl ha hL; simp only [List.map_cons, mv, zI_neg] at k; exact k)
  next => exact h.elim
def a_i2l : pAct := fun L st σ nx J Post => match st with
  | .inl a :: r => inI a ∧ nx L (vL a :: r) σ
  | _ => False
set_option maxHeartbeats 1000000 in
theorem s_i2l {l : Launch} {R : Room} {own : String} {cc : ByteArray} {ws : List Cond} {nL : Nat} {ret : Option FieldType} {pc : Nat} (hd : decode cc pc = .ok (.i2l, 1)) : pSnd l R own cc ws nL ret pc 1 (a_i2l) := by
  intro p e s m args below meth c D cA as A F L st σ nx J Post h hn hj
  obtain ⟨hx, hb, hown, hts, hK, hml, hA, hr, hlocks, hnw⟩ := F
  unfold a_i2l at h
  intro H locs ls hP hD hS hl ha hL
  split at h
  next a r => exact lv_i2l hx hb hd (zI_toL h.1) (hn _ _ _ h.2 H locs ls hP hD hS hl ha hL)
  next => exact h.elim
def a_lcmp : pAct := fun L st σ nx J Post => match st with
  | .inr (.inl b) :: .inr (.inl a) :: r => inL a ∧ inL b ∧ nx L (vI (if b < a then 1 else if a = b then 0 else -1) :: r) σ
  | _ => False
set_option maxHeartbeats 1000000 in
theorem s_lcmp {l : Launch} {R : Room} {own : String} {cc : ByteArray} {ws : List Cond} {nL : Nat} {ret : Option FieldType} {pc : Nat} (hd : decode cc pc = .ok (.lcmp, 1)) : pSnd l R own cc ws nL ret pc 1 (a_lcmp) := by
  intro p e s m args below meth c D cA as A F L st σ nx J Post h hn hj
  obtain ⟨hx, hb, hown, hts, hK, hml, hA, hr, hlocks, hnw⟩ := F
  unfold a_lcmp at h
  intro H locs ls hP hD hS hl ha hL
  split at h
  next b a r =>
    obtain ⟨h1, h2, h3⟩ := h
    have k := hn _ _ _ h3 H locs ls hP hD hS hl ha hL
    refine W.lcmp hx hb hd ?_
    have e0 : lg_cmp (zL a) (zL b) = zI (if b < a then 1 else if a = b then 0 else -1) := by
      unfold lg_cmp
      by_cases q : b < a
      · rw [if_pos q, if_pos ((zL_lt h2 h1).mpr q)]; rfl
      · rw [if_neg q, if_neg (fun z => q ((zL_lt h2 h1).mp z))]
        by_cases q2 : a = b
        · rw [if_pos q2, if_pos ((zL_eq h1 h2).mpr q2)]; rfl
        · rw [if_neg q2, if_neg (fun z => q2 ((zL_eq h1 h2).mp z))]; rfl
    rw [e0]
    exact k
  next => exact h.elim
def a_dup : pAct := fun L st σ nx J Post => match st with
  | .inl a :: r => nx L (.inl a :: .inl a :: r) σ
  | .inr (.inr a) :: r => nx L (.inr (.inr a) :: .inr (.inr a) :: r) σ
  | _ => False
set_option maxHeartbeats 1000000 in
theorem s_dup {l : Launch} {R : Room} {own : String} {cc : ByteArray} {ws : List Cond} {nL : Nat} {ret : Option FieldType} {pc : Nat} (hd : decode cc pc = .ok (.dup, 1)) : pSnd l R own cc ws nL ret pc 1 (a_dup) := by
  intro p e s m args below meth c D cA as A F L st σ nx J Post h hn hj
  obtain ⟨hx, hb, hown, hts, hK, hml, hA, hr, hlocks, hnw⟩ := F
  unfold a_dup at h
  intro H locs ls hP hD hS hl ha hL
  split at h
  next a r => exact lv_dup hx hb hd rfl (hn _ _ _ h H locs ls hP hD hS hl ha hL)
  next a r => exact lv_dup hx hb hd rfl (hn _ _ _ h H locs ls hP hD hS hl ha hL)
  next => exact h.elim
def a_pop : pAct := fun L st σ nx J Post => match st with
  | .inl _ :: r => nx L r σ
  | _ => False
set_option maxHeartbeats 1000000 in
theorem s_pop {l : Launch} {R : Room} {own : String} {cc : ByteArray} {ws : List Cond} {nL : Nat} {ret : Option FieldType} {pc : Nat} (hd : decode cc pc = .ok (.pop, 1)) : pSnd l R own cc ws nL ret pc 1 (a_pop) := by
  intro p e s m args below meth c D cA as A F L st σ nx J Post h hn hj
  obtain ⟨hx, hb, hown, hts, hK, hml, hA, hr, hlocks, hnw⟩ := F
  unfold a_pop at h
  intro H locs ls hP hD hS hl ha hL
  split at h
  next a r => exact lv_pop hx hb hd rfl (hn _ _ _ h H locs ls hP hD hS hl ha hL)
  next => exact h.elim
def a_dup2 : pAct := fun L st σ nx J Post => match st with
  | .inl a :: .inr (.inr b) :: r => nx L (.inl a :: .inr (.inr b) :: .inl a :: .inr (.inr b) :: r) σ
  | _ => False
set_option maxHeartbeats 1000000 in
theorem s_dup2 {l : Launch} {R : Room} {own : String} {cc : ByteArray} {ws : List Cond} {nL : Nat} {ret : Option FieldType} {pc : Nat} (hd : decode cc pc = .ok (.dup2, 1)) : pSnd l R own cc ws nL ret pc 1 (a_dup2) := by
  intro p e s m args below meth c D cA as A F L st σ nx J Post h hn hj
  obtain ⟨hx, hb, hown, hts, hK, hml, hA, hr, hlocks, hnw⟩ := F
  unfold a_dup2 at h
  intro H locs ls hP hD hS hl ha hL
  split at h
  next a b r => exact lv_dup2_11 hx hb hd rfl rfl (hn _ _ _ h H locs ls hP hD hS hl ha hL)
  next => exact h.elim
def a_goto (t : Nat) : pAct := fun L st σ nx J Post => J t L st σ
set_option maxHeartbeats 1000000 in
theorem s_goto {l : Launch} {R : Room} {own : String} {cc : ByteArray} {ws : List Cond} {nL : Nat} {ret : Option FieldType} {pc : Nat} {off : Int} {t : Nat} (ht : (pc : Int) + off = (t : Int)) (hd : decode cc pc = .ok (.goto off, 3)) : pSnd l R own cc ws nL ret pc 3 (a_goto t) := by
  intro p e s m args below meth c D cA as A F L st σ nx J Post h hn hj
  obtain ⟨hx, hb, hown, hts, hK, hml, hA, hr, hlocks, hnw⟩ := F
  intro H locs ls hP hD hS hl ha hL
  exact lv_goto hx hb hd ht (hj _ _ _ _ h H locs ls hP hD hS hl ha hL)
def a_if_eq (t : Nat) : pAct := fun L st σ nx J Post => match st with
  | .inl a :: r => inI a ∧ (a = 0 → J t L r σ) ∧ (¬ (a = 0) → nx L r σ)
  | _ => False
set_option maxHeartbeats 1000000 in
theorem s_if_eq {l : Launch} {R : Room} {own : String} {cc : ByteArray} {ws : List Cond} {nL : Nat} {ret : Option FieldType} {pc : Nat} {off : Int} {t : Nat} (ht : (pc : Int) + off = (t : Int)) (hd : decode cc pc = .ok (.ifCond .eq off, 3)) : pSnd l R own cc ws nL ret pc 3 (a_if_eq t) := by
  intro p e s m args below meth c D cA as A F L st σ nx J Post h hn hj
  obtain ⟨hx, hb, hown, hts, hK, hml, hA, hr, hlocks, hnw⟩ := F
  unfold a_if_eq at h
  intro H locs ls hP hD hS hl ha hL
  split at h
  next a r =>
    obtain ⟨h1, h2, h3⟩ := h
    exact lv_if_eq hx hb hd ht (fun q => hj _ _ _ _ (h2 ((zI_eq h1 inI_0).mp q)) H locs ls hP hD hS hl ha hL) (fun q => hn _ _ _ (h3 (fun z => q ((zI_eq h1 inI_0).mpr z))) H locs ls hP hD hS hl ha hL)
  next => exact h.elim
def a_icmp_eq (t : Nat) : pAct := fun L st σ nx J Post => match st with
  | .inl b :: .inl a :: r => inI a ∧ inI b ∧ (a = b → J t L r σ) ∧ (¬ (a = b) → nx L r σ)
  | _ => False
set_option maxHeartbeats 1000000 in
theorem s_icmp_eq {l : Launch} {R : Room} {own : String} {cc : ByteArray} {ws : List Cond} {nL : Nat} {ret : Option FieldType} {pc : Nat} {off : Int} {t : Nat} (ht : (pc : Int) + off = (t : Int)) (hd : decode cc pc = .ok (.if_icmp .eq off, 3)) : pSnd l R own cc ws nL ret pc 3 (a_icmp_eq t) := by
  intro p e s m args below meth c D cA as A F L st σ nx J Post h hn hj
  obtain ⟨hx, hb, hown, hts, hK, hml, hA, hr, hlocks, hnw⟩ := F
  unfold a_icmp_eq at h
  intro H locs ls hP hD hS hl ha hL
  split at h
  next b a r =>
    obtain ⟨h1, h2, h3, h4⟩ := h
    exact lv_icmp_eq hx hb hd ht (fun q => hj _ _ _ _ (h3 ((zI_eq h1 h2).mp q)) H locs ls hP hD hS hl ha hL) (fun q => hn _ _ _ (h4 (fun z => q ((zI_eq h1 h2).mpr z))) H locs ls hP hD hS hl ha hL)
  next => exact h.elim
def a_if_ne (t : Nat) : pAct := fun L st σ nx J Post => match st with
  | .inl a :: r => inI a ∧ (¬ a = 0 → J t L r σ) ∧ (a = 0 → nx L r σ)
  | _ => False
set_option maxHeartbeats 1000000 in
theorem s_if_ne {l : Launch} {R : Room} {own : String} {cc : ByteArray} {ws : List Cond} {nL : Nat} {ret : Option FieldType} {pc : Nat} {off : Int} {t : Nat} (ht : (pc : Int) + off = (t : Int)) (hd : decode cc pc = .ok (.ifCond .ne off, 3)) : pSnd l R own cc ws nL ret pc 3 (a_if_ne t) := by
  intro p e s m args below meth c D cA as A F L st σ nx J Post h hn hj
  obtain ⟨hx, hb, hown, hts, hK, hml, hA, hr, hlocks, hnw⟩ := F
  unfold a_if_ne at h
  intro H locs ls hP hD hS hl ha hL
  split at h
  next a r =>
    obtain ⟨h1, h2, h3⟩ := h
    exact lv_if_ne hx hb hd ht (fun q => hj _ _ _ _ (h2 ((not_congr (zI_eq h1 inI_0)).mp q)) H locs ls hP hD hS hl ha hL) (fun q => hn _ _ _ (h3 (((zI_eq h1 inI_0)).mp q)) H locs ls hP hD hS hl ha hL)
  next => exact h.elim
def a_icmp_ne (t : Nat) : pAct := fun L st σ nx J Post => match st with
  | .inl b :: .inl a :: r => inI a ∧ inI b ∧ (¬ a = b → J t L r σ) ∧ (a = b → nx L r σ)
  | _ => False
set_option maxHeartbeats 1000000 in
theorem s_icmp_ne {l : Launch} {R : Room} {own : String} {cc : ByteArray} {ws : List Cond} {nL : Nat} {ret : Option FieldType} {pc : Nat} {off : Int} {t : Nat} (ht : (pc : Int) + off = (t : Int)) (hd : decode cc pc = .ok (.if_icmp .ne off, 3)) : pSnd l R own cc ws nL ret pc 3 (a_icmp_ne t) := by
  intro p e s m args below meth c D cA as A F L st σ nx J Post h hn hj
  obtain ⟨hx, hb, hown, hts, hK, hml, hA, hr, hlocks, hnw⟩ := F
  unfold a_icmp_ne at h
  intro H locs ls hP hD hS hl ha hL
  split at h
  next b a r =>
    obtain ⟨h1, h2, h3, h4⟩ := h
    exact lv_icmp_ne hx hb hd ht (fun q => hj _ _ _ _ (h3 ((not_congr (zI_eq h1 h2)).mp q)) H locs ls hP hD hS hl ha hL) (fun q => hn _ _ _ (h4 (((zI_eq h1 h2)).mp q)) H locs ls hP hD hS hl ha hL)
  next => exact h.elim
def a_if_lt (t : Nat) : pAct := fun L st σ nx J Post => match st with
  | .inl a :: r => inI a ∧ (a < 0 → J t L r σ) ∧ (¬ (a < 0) → nx L r σ)
  | _ => False
set_option maxHeartbeats 1000000 in
theorem s_if_lt {l : Launch} {R : Room} {own : String} {cc : ByteArray} {ws : List Cond} {nL : Nat} {ret : Option FieldType} {pc : Nat} {off : Int} {t : Nat} (ht : (pc : Int) + off = (t : Int)) (hd : decode cc pc = .ok (.ifCond .lt off, 3)) : pSnd l R own cc ws nL ret pc 3 (a_if_lt t) := by
  intro p e s m args below meth c D cA as A F L st σ nx J Post h hn hj
  obtain ⟨hx, hb, hown, hts, hK, hml, hA, hr, hlocks, hnw⟩ := F
  unfold a_if_lt at h
  intro H locs ls hP hD hS hl ha hL
  split at h
  next a r =>
    obtain ⟨h1, h2, h3⟩ := h
    exact lv_if_lt hx hb hd ht (fun q => hj _ _ _ _ (h2 ((zI_lt h1 inI_0).mp q)) H locs ls hP hD hS hl ha hL) (fun q => hn _ _ _ (h3 (fun z => q ((zI_lt h1 inI_0).mpr z))) H locs ls hP hD hS hl ha hL)
  next => exact h.elim
def a_icmp_lt (t : Nat) : pAct := fun L st σ nx J Post => match st with
  | .inl b :: .inl a :: r => inI a ∧ inI b ∧ (a < b → J t L r σ) ∧ (¬ (a < b) → nx L r σ)
  | _ => False
set_option maxHeartbeats 1000000 in
theorem s_icmp_lt {l : Launch} {R : Room} {own : String} {cc : ByteArray} {ws : List Cond} {nL : Nat} {ret : Option FieldType} {pc : Nat} {off : Int} {t : Nat} (ht : (pc : Int) + off = (t : Int)) (hd : decode cc pc = .ok (.if_icmp .lt off, 3)) : pSnd l R own cc ws nL ret pc 3 (a_icmp_lt t) := by
  intro p e s m args below meth c D cA as A F L st σ nx J Post h hn hj
  obtain ⟨hx, hb, hown, hts, hK, hml, hA, hr, hlocks, hnw⟩ := F
  unfold a_icmp_lt at h
  intro H locs ls hP hD hS hl ha hL
  split at h
  next b a r =>
    obtain ⟨h1, h2, h3, h4⟩ := h
    exact lv_icmp_lt hx hb hd ht (fun q => hj _ _ _ _ (h3 ((zI_lt h1 h2).mp q)) H locs ls hP hD hS hl ha hL) (fun q => hn _ _ _ (h4 (fun z => q ((zI_lt h1 h2).mpr z))) H locs ls hP hD hS hl ha hL)
  next => exact h.elim
def a_if_ge (t : Nat) : pAct := fun L st σ nx J Post => match st with
  | .inl a :: r => inI a ∧ (0 ≤ a → J t L r σ) ∧ (¬ (0 ≤ a) → nx L r σ)
  | _ => False
set_option maxHeartbeats 1000000 in
theorem s_if_ge {l : Launch} {R : Room} {own : String} {cc : ByteArray} {ws : List Cond} {nL : Nat} {ret : Option FieldType} {pc : Nat} {off : Int} {t : Nat} (ht : (pc : Int) + off = (t : Int)) (hd : decode cc pc = .ok (.ifCond .ge off, 3)) : pSnd l R own cc ws nL ret pc 3 (a_if_ge t) := by
  intro p e s m args below meth c D cA as A F L st σ nx J Post h hn hj
  obtain ⟨hx, hb, hown, hts, hK, hml, hA, hr, hlocks, hnw⟩ := F
  unfold a_if_ge at h
  intro H locs ls hP hD hS hl ha hL
  split at h
  next a r =>
    obtain ⟨h1, h2, h3⟩ := h
    exact lv_if_ge hx hb hd ht (fun q => hj _ _ _ _ (h2 ((zI_le inI_0 h1).mp q)) H locs ls hP hD hS hl ha hL) (fun q => hn _ _ _ (h3 (fun z => q ((zI_le inI_0 h1).mpr z))) H locs ls hP hD hS hl ha hL)
  next => exact h.elim
def a_icmp_ge (t : Nat) : pAct := fun L st σ nx J Post => match st with
  | .inl b :: .inl a :: r => inI a ∧ inI b ∧ (b ≤ a → J t L r σ) ∧ (¬ (b ≤ a) → nx L r σ)
  | _ => False
set_option maxHeartbeats 1000000 in
theorem s_icmp_ge {l : Launch} {R : Room} {own : String} {cc : ByteArray} {ws : List Cond} {nL : Nat} {ret : Option FieldType} {pc : Nat} {off : Int} {t : Nat} (ht : (pc : Int) + off = (t : Int)) (hd : decode cc pc = .ok (.if_icmp .ge off, 3)) : pSnd l R own cc ws nL ret pc 3 (a_icmp_ge t) := by
  intro p e s m args below meth c D cA as A F L st σ nx J Post h hn hj
  obtain ⟨hx, hb, hown, hts, hK, hml, hA, hr, hlocks, hnw⟩ := F
  unfold a_icmp_ge at h
  intro H locs ls hP hD hS hl ha hL
  split at h
  next b a r =>
    obtain ⟨h1, h2, h3, h4⟩ := h
    exact lv_icmp_ge hx hb hd ht (fun q => hj _ _ _ _ (h3 ((zI_le h2 h1).mp q)) H locs ls hP hD hS hl ha hL) (fun q => hn _ _ _ (h4 (fun z => q ((zI_le h2 h1).mpr z))) H locs ls hP hD hS hl ha hL)
  next => exact h.elim
def a_if_gt (t : Nat) : pAct := fun L st σ nx J Post => match st with
  | .inl a :: r => inI a ∧ (0 < a → J t L r σ) ∧ (¬ (0 < a) → nx L r σ)
  | _ => False
set_option maxHeartbeats 1000000 in
theorem s_if_gt {l : Launch} {R : Room} {own : String} {cc : ByteArray} {ws : List Cond} {nL : Nat} {ret : Option FieldType} {pc : Nat} {off : Int} {t : Nat} (ht : (pc : Int) + off = (t : Int)) (hd : decode cc pc = .ok (.ifCond .gt off, 3)) : pSnd l R own cc ws nL ret pc 3 (a_if_gt t) := by
  intro p e s m args below meth c D cA as A F L st σ nx J Post h hn hj
  obtain ⟨hx, hb, hown, hts, hK, hml, hA, hr, hlocks, hnw⟩ := F
  unfold a_if_gt at h
  intro H locs ls hP hD hS hl ha hL
  split at h
  next a r =>
    obtain ⟨h1, h2, h3⟩ := h
    exact lv_if_gt hx hb hd ht (fun q => hj _ _ _ _ (h2 ((zI_lt inI_0 h1).mp q)) H locs ls hP hD hS hl ha hL) (fun q => hn _ _ _ (h3 (fun z => q ((zI_lt inI_0 h1).mpr z))) H locs ls hP hD hS hl ha hL)
  next => exact h.elim
def a_icmp_gt (t : Nat) : pAct := fun L st σ nx J Post => match st with
  | .inl b :: .inl a :: r => inI a ∧ inI b ∧ (b < a → J t L r σ) ∧ (¬ (b < a) → nx L r σ)
  | _ => False
set_option maxHeartbeats 1000000 in
theorem s_icmp_gt {l : Launch} {R : Room} {own : String} {cc : ByteArray} {ws : List Cond} {nL : Nat} {ret : Option FieldType} {pc : Nat} {off : Int} {t : Nat} (ht : (pc : Int) + off = (t : Int)) (hd : decode cc pc = .ok (.if_icmp .gt off, 3)) : pSnd l R own cc ws nL ret pc 3 (a_icmp_gt t) := by
  intro p e s m args below meth c D cA as A F L st σ nx J Post h hn hj
  obtain ⟨hx, hb, hown, hts, hK, hml, hA, hr, hlocks, hnw⟩ := F
  unfold a_icmp_gt at h
  intro H locs ls hP hD hS hl ha hL
  split at h
  next b a r =>
    obtain ⟨h1, h2, h3, h4⟩ := h
    exact lv_icmp_gt hx hb hd ht (fun q => hj _ _ _ _ (h3 ((zI_lt h2 h1).mp q)) H locs ls hP hD hS hl ha hL) (fun q => hn _ _ _ (h4 (fun z => q ((zI_lt h2 h1).mpr z))) H locs ls hP hD hS hl ha hL)
  next => exact h.elim
def a_if_le (t : Nat) : pAct := fun L st σ nx J Post => match st with
  | .inl a :: r => inI a ∧ (a ≤ 0 → J t L r σ) ∧ (¬ (a ≤ 0) → nx L r σ)
  | _ => False
set_option maxHeartbeats 1000000 in
theorem s_if_le {l : Launch} {R : Room} {own : String} {cc : ByteArray} {ws : List Cond} {nL : Nat} {ret : Option FieldType} {pc : Nat} {off : Int} {t : Nat} (ht : (pc : Int) + off = (t : Int)) (hd : decode cc pc = .ok (.ifCond .le off, 3)) : pSnd l R own cc ws nL ret pc 3 (a_if_le t) := by
  intro p e s m args below meth c D cA as A F L st σ nx J Post h hn hj
  obtain ⟨hx, hb, hown, hts, hK, hml, hA, hr, hlocks, hnw⟩ := F
  unfold a_if_le at h
  intro H locs ls hP hD hS hl ha hL
  split at h
  next a r =>
    obtain ⟨h1, h2, h3⟩ := h
    exact lv_if_le hx hb hd ht (fun q => hj _ _ _ _ (h2 ((zI_le h1 inI_0).mp q)) H locs ls hP hD hS hl ha hL) (fun q => hn _ _ _ (h3 (fun z => q ((zI_le h1 inI_0).mpr z))) H locs ls hP hD hS hl ha hL)
  next => exact h.elim
def a_icmp_le (t : Nat) : pAct := fun L st σ nx J Post => match st with
  | .inl b :: .inl a :: r => inI a ∧ inI b ∧ (a ≤ b → J t L r σ) ∧ (¬ (a ≤ b) → nx L r σ)
  | _ => False
set_option maxHeartbeats 1000000 in
theorem s_icmp_le {l : Launch} {R : Room} {own : String} {cc : ByteArray} {ws : List Cond} {nL : Nat} {ret : Option FieldType} {pc : Nat} {off : Int} {t : Nat} (ht : (pc : Int) + off = (t : Int)) (hd : decode cc pc = .ok (.if_icmp .le off, 3)) : pSnd l R own cc ws nL ret pc 3 (a_icmp_le t) := by
  intro p e s m args below meth c D cA as A F L st σ nx J Post h hn hj
  obtain ⟨hx, hb, hown, hts, hK, hml, hA, hr, hlocks, hnw⟩ := F
  unfold a_icmp_le at h
  intro H locs ls hP hD hS hl ha hL
  split at h
  next b a r =>
    obtain ⟨h1, h2, h3, h4⟩ := h
    exact lv_icmp_le hx hb hd ht (fun q => hj _ _ _ _ (h3 ((zI_le h1 h2).mp q)) H locs ls hP hD hS hl ha hL) (fun q => hn _ _ _ (h4 (fun z => q ((zI_le h1 h2).mpr z))) H locs ls hP hD hS hl ha hL)
  next => exact h.elim
def a_ifnonnull (t : Nat) : pAct := fun L st σ nx J Post => match st with
  | .inr (.inr _) :: r => J t L r σ
  | _ => False
set_option maxHeartbeats 1000000 in
theorem s_ifnonnull {l : Launch} {R : Room} {own : String} {cc : ByteArray} {ws : List Cond} {nL : Nat} {ret : Option FieldType} {pc : Nat} {off : Int} {t : Nat} (ht : (pc : Int) + off = (t : Int)) (hd : decode cc pc = .ok (.ifnonnull off, 3)) : pSnd l R own cc ws nL ret pc 3 (a_ifnonnull t) := by
  intro p e s m args below meth c D cA as A F L st σ nx J Post h hn hj
  obtain ⟨hx, hb, hown, hts, hK, hml, hA, hr, hlocks, hnw⟩ := F
  unfold a_ifnonnull at h
  intro H locs ls hP hD hS hl ha hL
  split at h
  next a r => exact lv_ifnonnull hx hb hd ht (hj _ _ _ _ h H locs ls hP hD hS hl ha hL)
  next => exact h.elim
def a_fall (t : Nat) : pAct := fun L st σ nx J Post => J t L st σ
theorem s_fall {l : Launch} {R : Room} {own : String} {cc : ByteArray} {ws : List Cond} {nL : Nat} {ret : Option FieldType} {pc : Nat} : pSnd l R own cc ws nL ret pc 0 (a_fall pc) := by
  intro p e s m args below meth c D cA as A F L st σ nx J Post h hn hj
  exact hj _ _ _ _ h
def a_ifnull : pAct := fun L st σ nx J Post => match st with
  | .inr (.inr _) :: r => nx L r σ
  | _ => False
set_option maxHeartbeats 1000000 in
theorem s_ifnull {l : Launch} {R : Room} {own : String} {cc : ByteArray} {ws : List Cond} {nL : Nat} {ret : Option FieldType} {pc : Nat} {off : Int} (hd : decode cc pc = .ok (.ifnull off, 3)) : pSnd l R own cc ws nL ret pc 3 (a_ifnull) := by
  intro p e s m args below meth c D cA as A F L st σ nx J Post h hn hj
  obtain ⟨hx, hb, hown, hts, hK, hml, hA, hr, hlocks, hnw⟩ := F
  unfold a_ifnull at h
  intro H locs ls hP hD hS hl ha hL
  split at h
  next a r => exact lv_ifnull hx hb hd (hn _ _ _ h H locs ls hP hD hS hl ha hL)
  next => exact h.elim
/-- the branches of a switch by its keys, then the default -/
def swc (z : Int) (f : Nat → Prop) (d : Nat) : List (Int × Nat) → Prop
  | [] => f d
  | q :: r => (z = q.1 → f q.2) ∧ (¬ z = q.1 → swc z f d r)
def swt (z : Int) (d : Nat) : List (Int × Nat) → Nat
  | [] => d
  | q :: r => if z = q.1 then q.2 else swt z d r
theorem swc_swt {z : Int} {f : Nat → Prop} {d : Nat} : ∀ (l : List (Int × Nat)), swc z f d l → f (swt z d l)
  | [], h => h
  | q :: r, h => by
    unfold swt
    by_cases e : z = q.1
    · rw [if_pos e]; exact h.1 e
    · rw [if_neg e]; exact swc_swt r (h.2 e)
def a_lsw (ps : List (Int × Nat)) (d : Nat) : pAct := fun L st σ nx J Post => match st with
  | .inl a :: r => inI a ∧ swc a (fun t => J t L r σ) d ps
  | _ => False
theorem lsw_off {pc : Nat} {z dflt : Int} {d : Nat} (hd : (pc : Int) + dflt = (d : Int)) : ∀ (ps : List (Int × Int)) (tg : List (Int × Nat)), ps.map (fun q => (q.1, (pc : Int) + q.2)) = tg.map (fun q => (q.1, (q.2 : Int))) → (pc : Int) + Op.lookupswitch.offset ps dflt z = ((swt z d tg : Nat) : Int)
  | [], [], _ => by rw [Op.lookupswitch.offset_nil]; exact hd
  | [], _ :: _, h => by simp at h
  | _ :: _, [], h => by simp at h
  | (a, o) :: ps, (b, t) :: tg, h => by
    simp only [List.map_cons, List.cons.injEq, Prod.mk.injEq] at h
    obtain ⟨⟨rfl, h2⟩, h3⟩ := h
    rw [Op.lookupswitch.offset_cons, swt]
    by_cases e : z = a
    · rw [if_pos e.symm, if_pos e]; exact h2
    · rw [if_neg (fun x => e x.symm), if_neg e]; exact lsw_off hd ps tg h3
set_option maxHeartbeats 1000000 in
theorem s_lsw {l : Launch} {R : Room} {own : String} {cc : ByteArray} {ws : List Cond} {nL : Nat} {ret : Option FieldType} {pc : Nat} {dflt : Int} {ps : Array (Int × Int)} {len : Nat} {tg : List (Int × Nat)} {d : Nat} (hs : (ps.toList.zip (ps.toList.drop 1)).all (fun (a, next) => a.1 < next.1) = true) (h1 : (pc : Int) + dflt = (d : Int)) (h2 : ps.toList.map (fun q => (q.1, (pc : Int) + q.2)) = tg.map (fun q => (q.1, (q.2 : Int)))) (hd : decode cc pc = .ok (.lookupswitch dflt ps, len)) : pSnd l R own cc ws nL ret pc len (a_lsw tg d) := by
  intro p e s m args below meth c D cA as A F L st σ nx J Post h hn hj
  obtain ⟨hx, hb, hown, hts, hK, hml, hA, hr, hlocks, hnw⟩ := F
  unfold a_lsw at h
  intro H locs ls hP hD hS hl ha hL
  split at h
  next a r =>
    have k := hj _ _ _ _ (swc_swt (f := fun t => J t L r σ) tg h.2) H locs ls hP hD hS hl ha hL
    exact lv_lookup hx hb hd hs rfl (by rw [zI_toInt h.1]; exact lsw_off h1 _ _ h2) k
  next => exact h.elim
theorem tsw_in {pc : Nat} {d : Nat} {z : Int} : ∀ (os : List Int) (tg : List (Int × Nat)) (lo : Int), os.map (fun o => (pc : Int) + o) = tg.map (fun q => (q.2 : Int)) → tg.map (fun q => q.1) = (List.range os.length).map (fun (k : Nat) => lo + (k : Int)) → lo ≤ z → z < lo + os.length →
    ∃ off, os[(z - lo).toNat]? = some off ∧ (pc : Int) + off = ((swt z d tg : Nat) : Int)
  | [], _, lo, _, _, h1, h2 => by simp at h2; omega
  | _ :: _, [], _, h, _, _, _ => by simp at h
  | o :: os, (k, t) :: tg, lo, h, h3, h1, h2 => by
    simp only [List.map_cons, List.cons.injEq] at h
    rw [List.length_cons, List.range_succ_eq_map] at h3
    simp only [List.map_cons, List.map_map, List.cons.injEq] at h3
    obtain ⟨h4, h5⟩ := h
    obtain ⟨h6, h7⟩ := h3
    have h6 : k = lo := by simpa using h6
    subst h6
    rw [swt]
    by_cases e : z = k
    · subst e
      refine ⟨o, by simp, ?_⟩
      rw [if_pos rfl]; exact h4
    · rw [if_neg e]
      have h2' : z < (k + 1) + (os.length : Int) := by simp only [List.length_cons] at h2; omega
      obtain ⟨off, a1, a2⟩ := tsw_in os tg (k + 1) h5 (by
        rw [h7]
        apply List.map_congr_left
        intro x _
        show k + ((x + 1 : Nat) : Int) = k + 1 + (x : Int)
        omega) (by omega) h2'
      refine ⟨off, ?_, a2⟩
      rw [show (z - k).toNat = (z - (k + 1)).toNat + 1 by omega]
      exact a1
theorem tsw_out {d : Nat} {z : Int} : ∀ (tg : List (Int × Nat)), (∀ q ∈ tg, z ≠ q.1) → swt z d tg = d
  | [], _ => rfl
  | q :: r, h => by
    rw [swt, if_neg (h q List.mem_cons_self)]
    exact tsw_out r (fun q hq => h q (List.mem_cons_of_mem _ hq))
set_option maxHeartbeats 1000000 in
theorem s_tsw {l : Launch} {R : Room} {own : String} {cc : ByteArray} {ws : List Cond} {nL : Nat} {ret : Option FieldType} {pc : Nat} {dflt lo hi : Int} {os : Array Int} {len : Nat} {tg : List (Int × Nat)} {d : Nat} (h1 : (pc : Int) + dflt = (d : Int)) (h2 : os.toList.map (fun o => (pc : Int) + o) = tg.map (fun q => (q.2 : Int))) (h3 : tg.map (fun q => q.1) = (List.range os.toList.length).map (fun (k : Nat) => lo + (k : Int))) (h4 : hi = lo + os.toList.length - 1) (hd : decode cc pc = .ok (.tableswitch dflt lo hi os, len)) : pSnd l R own cc ws nL ret pc len (a_lsw tg d) := by
  intro p e s m args below meth c D cA as A F L st σ nx J Post h hn hj
  obtain ⟨hx, hb, hown, hts, hK, hml, hA, hr, hlocks, hnw⟩ := F
  unfold a_lsw at h
  intro H locs ls hP hD hS hl ha hL
  split at h
  next a r =>
    have k := hj _ _ _ _ (swc_swt (f := fun t => J t L r σ) tg h.2) H locs ls hP hD hS hl ha hL
    have hz := zI_toInt h.1
    by_cases q : lo ≤ a ∧ a < lo + os.toList.length
    · obtain ⟨off, a1, a2⟩ := tsw_in (d := d) os.toList tg lo h2 h3 q.1 q.2
      exact lv_tableIn hx hb hd (by rw [hz]; omega) (by rw [hz, h4]; omega) (by rw [hz, ← Array.getElem?_toList]; exact a1) a2 k
    · have e0 : swt a d tg = d := tsw_out tg (fun x hx' z => q (by
        have h5 : x.1 ∈ tg.map (fun q => q.1) := List.mem_map.mpr ⟨x, hx', rfl⟩
        rw [h3] at h5
        obtain ⟨y, hy, hy2⟩ := List.mem_map.mp h5
        have := List.mem_range.mp hy
        omega))
      rw [e0] at k
      exact lv_tableOut hx hb hd (by rw [hz, h4]; omega) h1 k
  next => exact h.elim
def a_iret : pAct := fun L st σ nx J Post => match st with
  | .inl z :: [] => Post (some (.inl z)) σ
  | _ => False
theorem pQ_ok {D : va_G} {cA : ClassId} {as : List Nat} {A : Nat → Prop} {Post : pR} {args : Array Value} {s t : State} {H : Heap} {locs : List Loc} {σ : pS} {r : Option pV} (hP : va_P D vwCl (mw cA σ) H) (hS : va_S A s.heap H locs) (ha : σ.map Prod.fst = as) (h : Post r σ) (ht : t.heap = H) : pQ D cA as A Post args s (.returned (r.map mv)) t := ⟨⟨r, σ, rfl, h, ha, by rw [ht]; exact hP⟩, hS.F ht⟩
set_option maxHeartbeats 1000000 in
theorem s_iret {l : Launch} {R : Room} {own : String} {cc : ByteArray} {ws : List Cond} {nL : Nat} {pc : Nat} (hd : decode cc pc = .ok (.ireturn, 1)) : pSnd l R own cc ws nL (some .int) pc 1 a_iret := by
  intro p e s m args below meth c D cA as A F L st σ nx J Post h hn hj
  obtain ⟨hx, hb, hown, hts, hK, hml, hA, hr, hlocks, hnw⟩ := F
  unfold a_iret at h
  intro H locs ls hP hD hS hl ha hL
  split at h
  next z => exact W.iret hx hb hr (fun t ht hW => pQ_ok (r := some (.inl z)) hP hS ha h ht) hS.2.2 hd
  next => exact h.elim
def a_zret : pAct := fun L st σ nx J Post => match st with
  | .inl z :: [] => (z = 0 ∨ z = 1) ∧ Post (some (.inl z)) σ
  | _ => False
set_option maxHeartbeats 1000000 in
theorem s_zret {l : Launch} {R : Room} {own : String} {cc : ByteArray} {ws : List Cond} {nL : Nat} {pc : Nat} (hd : decode cc pc = .ok (.ireturn, 1)) : pSnd l R own cc ws nL (some .boolean) pc 1 a_zret := by
  intro p e s m args below meth c D cA as A F L st σ nx J Post h hn hj
  obtain ⟨hx, hb, hown, hts, hK, hml, hA, hr, hlocks, hnw⟩ := F
  unfold a_zret at h
  intro H locs ls hP hD hS hl ha hL
  split at h
  next z =>
    refine W.zret hx hb hr ?_ (fun t ht hW => pQ_ok (r := some (.inl z)) hP hS ha h.2 ht) hS.2.2 hd
    rcases h.1 with rfl | rfl <;> rfl
  next => exact h.elim
def a_lret : pAct := fun L st σ nx J Post => match st with
  | .inr (.inl z) :: [] => Post (some (.inr (.inl z))) σ
  | _ => False
set_option maxHeartbeats 1000000 in
theorem s_lret {l : Launch} {R : Room} {own : String} {cc : ByteArray} {ws : List Cond} {nL : Nat} {pc : Nat} (hd : decode cc pc = .ok (.lreturn, 1)) : pSnd l R own cc ws nL (some .long) pc 1 a_lret := by
  intro p e s m args below meth c D cA as A F L st σ nx J Post h hn hj
  obtain ⟨hx, hb, hown, hts, hK, hml, hA, hr, hlocks, hnw⟩ := F
  unfold a_lret at h
  intro H locs ls hP hD hS hl ha hL
  split at h
  next z => exact W.lret hx hb hr (fun t ht hW => pQ_ok (r := some (.inr (.inl z))) hP hS ha h ht) hS.2.2 hd
  next => exact h.elim
def a_vret : pAct := fun L st σ nx J Post => match st with
  | [] => Post none σ
  | _ => False
set_option maxHeartbeats 1000000 in
theorem s_vret {l : Launch} {R : Room} {own : String} {cc : ByteArray} {ws : List Cond} {nL : Nat} {pc : Nat} (hd : decode cc pc = .ok (.return_, 1)) : pSnd l R own cc ws nL none pc 1 a_vret := by
  intro p e s m args below meth c D cA as A F L st σ nx J Post h hn hj
  obtain ⟨hx, hb, hown, hts, hK, hml, hA, hr, hlocks, hnw⟩ := F
  unfold a_vret at h
  intro H locs ls hP hD hS hl ha hL
  split at h
  next => exact W.vret hx hb hr (fun t ht hW => pQ_ok (r := none) hP hS ha h ht) hS.2.2 hd
  next => exact h.elim
def a_getf (q ci k : Nat) : pAct := fun L st σ nx J Post => match st, σ[q]? with
  | .inr (.inr b) :: r, some (a, .inr o) => b = a ∧ o.1 = ci ∧ match o.2[k]? with
    | some v => nx L (v :: r) σ
    | none => False
  | _, _ => False
set_option maxHeartbeats 1000000 in
theorem s_getf {l : Launch} {R : Room} {own : String} {cc : ByteArray} {ws : List Cond} {nL : Nat} {ret : Option FieldType} {pc : Nat} {C fown : String} {T : u_T} {N ci ix k q : Nat} (hc : vwCl[ci]? = some (C, T, N)) (hin : ∀ w ∈ u_ws C T N, w ∈ ws) (hk : k < N) (hl0 : Cond.fieldLink own ix fown (T k).2.1 (T k).2.2.1 ∈ ws) (hf : (T k).1 = fown) (hd : decode cc pc = .ok (.getfield ix, 3)) : pSnd l R own cc ws nL ret pc 3 (a_getf q ci k) := by
  intro p e s m args below meth c D cA as A F L st σ nx J Post h hn hj
  obtain ⟨hx, hb, hown, hts, hK, hml, hA, hr, hlocks, hnw⟩ := F
  unfold a_getf at h
  intro H locs ls hP hD hS hl ha hL
  split at h
  next b r a o hq =>
    obtain ⟨h1, h2, h3⟩ := h
    split at h3
    next v hv =>
      subst h1
      obtain ⟨oc, fs⟩ := o
      dsimp only at h2 h3 hv
      subst h2
      exact va_get (D := D) (cl := vwCl) (ci := oc) (C := C) (T := T) (N := N) (ref := fown) hx hb hts hin hown hK hP q (mw_get hq) hc k hk (hts _ hl0) (by rw [hf]; exact fun _ h9 => h9) (v := mv v) (by rw [List.getElem?_map, hv]; rfl) hd (hn _ _ _ h3 H locs ls hP hD hS hl ha hL)
    next => exact h3.elim
  next => exact h.elim
/-- what a field of a type may hold -/
def fitV (ty : FieldType) (v : pV) : Prop := match ty, v with
  | .int, .inl _ => True
  | .boolean, .inl z => z = 0 ∨ z = 1
  | _, _ => False
theorem fitV_n {ty : FieldType} {v : pV} (h : fitV ty v) : narrow ty (mv v) = mv v ∧ fits ty (mv v) = true := by
  unfold fitV at h
  split at h
  · exact ⟨rfl, rfl⟩
  · rcases h with rfl | rfl <;> exact ⟨rfl, rfl⟩
  · exact h.elim
def a_putf (q ci k : Nat) (ty : FieldType) : pAct := fun L st σ nx J Post => match st, σ[q]? with
  | v :: .inr (.inr b) :: r, some (a, .inr o) => b = a ∧ o.1 = ci ∧ fitV ty v ∧ k < o.2.length ∧ nx L r (σ.set q (a, .inr (o.1, o.2.set k v)))
  | _, _ => False
theorem map_fst_set {σ : pS} {q a : Nat} {x y : pC} (h : σ[q]? = some (a, x)) : (σ.set q (a, y)).map Prod.fst = σ.map Prod.fst := by
  rw [List.map_set]
  apply List.ext_getElem?
  intro i
  by_cases e : q = i
  · subst e
    rw [List.getElem?_set_self (by rw [List.length_map]; exact (List.getElem?_eq_some_iff.mp h).1), List.getElem?_map, h]
    rfl
  · rw [List.getElem?_set_ne e]
set_option maxHeartbeats 1000000 in
theorem s_putf {l : Launch} {R : Room} {own : String} {cc : ByteArray} {ws : List Cond} {nL : Nat} {ret : Option FieldType} {pc : Nat} {C fown : String} {T : u_T} {N ci ix k q : Nat} {ty : FieldType} (ty0 : Nat → FieldType) (hc : vwCl[ci]? = some (C, T, N)) (hin : ∀ w ∈ u_ws C T N, w ∈ ws) (hty : ∀ k, k < N → parseFieldDescriptor (T k).2.2.1 = some (ty0 k)) (hnm : ∀ a, a < N → ∀ b, b < N → a ≠ b → (T a).2.1 ≠ (T b).2.1) (hk : k < N) (hl0 : Cond.fieldLink own ix fown (T k).2.1 (T k).2.2.1 ∈ ws) (hf : (T k).1 = fown) (hfin : (T k).2.2.2 = false) (hpd : parseFieldDescriptor (T k).2.2.1 = some ty) (hd : decode cc pc = .ok (.putfield ix, 3)) : pSnd l R own cc ws nL ret pc 3 (a_putf q ci k ty) := by
  intro p e s m args below meth c D cA as A F L st σ nx J Post h hn hj
  obtain ⟨hx, hb, hown, hts, hK, hml, hA, hr, hlocks, hnw⟩ := F
  unfold a_putf at h
  intro H locs ls hP hD hS hl ha hL
  split at h
  next v b r a o hq =>
    obtain ⟨h1, h2, h3, h4, h5⟩ := h
    subst h1
    obtain ⟨oc, fs⟩ := o
    dsimp only at h2 h4 h5
    subst h2
    have hfv := fitV_n h3
    refine va_put (D := D) (cl := vwCl) (ci := oc) (C := C) (T := T) (N := N) (ref := fown) (ty := ty) (v := mv v) hx hb hts hin ty0 hty hnm hown hK hP hD hS q (mw_get hq) hc k hk (hts _ hl0) (by rw [hf]; exact fun _ h9 => h9) hfin hpd hfv.1 hfv.2 (by simpa using h4) hd (fun H1 locs1 hP1 hD1 hS1 => ?_)
    have e1 : (mw cA σ).set q (b, .inr (oc, (fs.map mv).set k (mv v))) = mw cA (σ.set q (b, .inr (oc, fs.set k v))) := by
      rw [mw_set, mcl, List.map_set]
    rw [e1] at hP1 hD1
    exact hn _ _ _ h5 H1 locs1 ls hP1 hD1 hS1 hl (by rw [map_fst_set hq]; exact ha) hL
  next => exact h.elim
def a_iald (q : Nat) : pAct := fun L st σ nx J Post => match st, σ[q]? with
  | .inl z :: .inr (.inr b) :: r, some (a, .inl xs) => b = a ∧ 0 ≤ z ∧ z < 2147483648 ∧ z < xs.length ∧ nx L (vI (xs.getD z.toNat 0) :: r) σ
  | _, _ => False
set_option maxHeartbeats 1000000 in
theorem s_iald {l : Launch} {R : Room} {own : String} {cc : ByteArray} {ws : List Cond} {nL : Nat} {ret : Option FieldType} {pc : Nat} {q : Nat} (hd : decode cc pc = .ok (.iaload, 1)) : pSnd l R own cc ws nL ret pc 1 (a_iald q) := by
  intro p e s m args below meth c D cA as A F L st σ nx J Post h hn hj
  obtain ⟨hx, hb, hown, hts, hK, hml, hA, hr, hlocks, hnw⟩ := F
  unfold a_iald at h
  intro H locs ls hP hD hS hl ha hL
  split at h
  next z b r a xs hq =>
    obtain ⟨h1, h2, h3, h4, h5⟩ := h
    subst h1
    refine va_iald (D := D) (cl := vwCl) hx hb hK hP q 0 (mw_get hq) rfl (zI_in h2 h3 h4) hd ?_
    rw [zI_clamp h2 h3]
    exact hn _ _ _ h5 H locs ls hP hD hS hl ha hL
  next => exact h.elim
theorem ar_set {cA : ClassId} {σ : pS} {q a i : Nat} {xs : List Int} {v : Int} : vp_cell cA (xs.length, .inl (upd (fun j => zI (xs.getD j 0)) i (zI v))) = vp_cell cA ((xs.set i v).length, .inl (fun j => zI ((xs.set i v).getD j 0))) := by
  rw [List.length_set, vp_cell_i, vp_cell_i]
  unfold arrV
  congr 1
  apply congrArg
  funext j
  have hj : j.val < xs.length := j.isLt
  by_cases e : j.val = i
  · subst e
    simp [upd, List.getD_eq_getElem?_getD, List.getElem?_set_self hj]
  · simp [upd, e, List.getD_eq_getElem?_getD]
    rw [List.getElem_set_ne (fun z => e z.symm)]
theorem va_P_cong {D : va_G} {cl : List vw_C} {ws : va_W} {q a : Nat} {c1 c2 : ClassId × vp_A} {H : Heap} (hq : q < ws.length) (he : vp_cell c1.1 c1.2 = vp_cell c2.1 c2.2) (h : va_P D cl (ws.set q (a, .inl c1)) H) : va_P D cl (ws.set q (a, .inl c2)) H := by
  intro k x hk
  by_cases e : q = k
  · subst e
    rw [List.getElem?_set_self hq] at hk
    cases hk
    have h0 := h q (a, .inl c1) (List.getElem?_set_self hq)
    show H[a]? = some _
    rw [← he]
    exact h0
  · rw [List.getElem?_set_ne e] at hk
    exact h k x (by rw [List.getElem?_set_ne e]; exact hk)
theorem va_D_cong {A : Nat → Prop} {w1 w2 : va_W} (he : w1.map Prod.fst = w2.map Prod.fst) (h : va_D A w1) : va_D A w2 := by
  have key : ∀ (k : Nat) (x : Nat × va_E), w2[k]? = some x → ∃ y, w1[k]? = some y ∧ y.1 = x.1 := by
    intro k x hk
    have h1 : (w2.map Prod.fst)[k]? = some x.1 := by rw [List.getElem?_map, hk]; rfl
    rw [← he, List.getElem?_map] at h1
    cases h2 : w1[k]? with
    | none => rw [h2] at h1; cases h1
    | some y => rw [h2] at h1; exact ⟨y, rfl, Option.some.inj h1⟩
  refine ⟨fun i j x y hi hj hxy => ?_, fun k x hk => ?_⟩
  · obtain ⟨x', a1, a2⟩ := key i x hi
    obtain ⟨y', b1, b2⟩ := key j y hj
    exact h.1 i j x' y' a1 b1 (a2.trans (hxy.trans b2.symm))
  · obtain ⟨x', a1, a2⟩ := key k x hk
    rw [← a2]
    exact h.2 k x' a1
theorem mw_fst {cA : ClassId} {σ : pS} : (mw cA σ).map Prod.fst = σ.map Prod.fst := by
  rw [mw, List.map_map]; rfl
def a_iast (q : Nat) : pAct := fun L st σ nx J Post => match st, σ[q]? with
  | .inl v :: .inl z :: .inr (.inr b) :: r, some (a, .inl xs) => b = a ∧ 0 ≤ z ∧ z < 2147483648 ∧ z < xs.length ∧ nx L r (σ.set q (a, .inl (xs.set z.toNat v)))
  | _, _ => False
set_option maxHeartbeats 1000000 in
theorem s_iast {l : Launch} {R : Room} {own : String} {cc : ByteArray} {ws : List Cond} {nL : Nat} {ret : Option FieldType} {pc : Nat} {q : Nat} (hd : decode cc pc = .ok (.iastore, 1)) : pSnd l R own cc ws nL ret pc 1 (a_iast q) := by
  intro p e s m args below meth c D cA as A F L st σ nx J Post h hn hj
  obtain ⟨hx, hb, hown, hts, hK, hml, hA, hr, hlocks, hnw⟩ := F
  unfold a_iast at h
  intro H locs ls hP hD hS hl ha hL
  split at h
  next v z b r a xs hq =>
    obtain ⟨h1, h2, h3, h4, h5⟩ := h
    subst h1
    refine va_iast (D := D) (cl := vwCl) hx hb hK hP hD hS q 0 (mw_get hq) rfl (zI_in h2 h3 h4) hd (fun H1 locs1 hP1 hD1 hS1 => ?_)
    rw [zI_clamp h2 h3] at hP1 hD1
    have hql : q < (mw cA σ).length := (List.getElem?_eq_some_iff.mp (mw_get (cA := cA) hq)).1
    have hP2 := va_P_cong (c2 := (cA, (xs.set z.toNat v).length, .inl (fun j => zI ((xs.set z.toNat v).getD j 0)))) hql (ar_set (σ := σ) (q := q) (a := b)) hP1
    have e1 : (mw cA σ).set q (b, .inl (cA, (xs.set z.toNat v).length, .inl (fun j => zI ((xs.set z.toNat v).getD j 0)))) = mw cA (σ.set q (b, .inl (xs.set z.toNat v))) := by
      rw [mw_set, mcl]
    rw [e1] at hP2
    refine hn _ _ _ h5 H1 locs1 ls hP2 (va_D_cong ?_ hD1) hS1 hl (by rw [map_fst_set hq]; exact ha) hL
    rw [mw_fst, map_fst_set hq, ← mw_fst (cA := cA)]
    rw [List.map_set]
    apply List.ext_getElem?
    intro i
    by_cases e : q = i
    · subst e
      rw [List.getElem?_set_self (by rw [List.length_map]; exact hql), List.getElem?_map, mw_get hq]
      rfl
    · rw [List.getElem?_set_ne e]
  next => exact h.elim
def a_alen (q : Nat) : pAct := fun L st σ nx J Post => match st, σ[q]? with
  | .inr (.inr b) :: r, some (a, .inl xs) => b = a ∧ nx L (vI xs.length :: r) σ
  | _, _ => False
set_option maxHeartbeats 1000000 in
theorem s_alen {l : Launch} {R : Room} {own : String} {cc : ByteArray} {ws : List Cond} {nL : Nat} {ret : Option FieldType} {pc : Nat} {q : Nat} (hd : decode cc pc = .ok (.arraylength, 1)) : pSnd l R own cc ws nL ret pc 1 (a_alen q) := by
  intro p e s m args below meth c D cA as A F L st σ nx J Post h hn hj
  obtain ⟨hx, hb, hown, hts, hK, hml, hA, hr, hlocks, hnw⟩ := F
  unfold a_alen at h
  intro H locs ls hP hD hS hl ha hL
  split at h
  next b r a xs hq =>
    obtain ⟨h1, h2⟩ := h
    subst h1
    exact va_alen (D := D) (cl := vwCl) hx hb hK hP q 0 (mw_get hq) rfl (v := zI xs.length) (by show Int32.ofNat xs.length = Int32.ofInt xs.length; rw [Int32.ofInt_eq_ofNat]) hd (hn _ _ _ h2 H locs ls hP hD hS hl ha hL)
  next => exact h.elim
