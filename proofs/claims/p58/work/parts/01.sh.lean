/-! what is decoded in a slice of the code is decoded in the code -/
def agB (c d : ByteArray) (o : Nat) : Prop := ∀ (i : Nat) (b : UInt8), d.data.toList[i]? = some b → c.data.toList[o + i]? = some b
def Sh {α : Type} (r s : Reader DecodeError α) : Prop := ∀ (c d : ByteArray) (o : Nat), agB c d o → ∀ (p : Nat) (x : α) (q : Nat), Reader.runAt s d p = Except.ok (x, q) → Reader.runAt r c (o + p) = Except.ok (x, o + q)
theorem agB_of {c d : ByteArray} {o n : Nat} (h : (c.data.toList.drop o).take n = d.data.toList) : agB c d o := fun i b e => by
  rw [← h, List.getElem?_take] at e
  split at e
  · rw [List.getElem?_drop] at e; exact e
  · cases e
theorem rd_b {α β : Type} (r : Reader DecodeError α) (f : α → Reader DecodeError β) (c : ByteArray) (p : Nat) : Reader.runAt (r >>= f) c p = (match Reader.runAt r c p with | Except.error e => Except.error e | Except.ok v => Reader.runAt (f v.1) c v.2) := by
  have h : Reader.runAt (r >>= f) c p = Except.bind (Reader.runAt r c p) (fun v => Reader.runAt (f v.1) c v.2) := rfl
  rw [h]
  cases Reader.runAt r c p <;> rfl
theorem rd_m {α β : Type} (g : α → β) (r : Reader DecodeError α) (c : ByteArray) (p : Nat) : Reader.runAt (g <$> r) c p = (match Reader.runAt r c p with | Except.error e => Except.error e | Except.ok v => Except.ok (g v.1, v.2)) := by
  have h : Reader.runAt (g <$> r) c p = Except.bind (Reader.runAt r c p) (fun v => Except.ok (g v.1, v.2)) := rfl
  rw [h]
  cases Reader.runAt r c p <;> rfl
theorem rd_u1 (c : ByteArray) (p : Nat) : Reader.runAt (Reader.u1 : Reader DecodeError Nat) c p = if h : p < c.size then Except.ok (c[p].toNat, p + 1) else Except.error (HasTruncated.truncated p) := by
  have h0 : Reader.runAt (Reader.u1 : Reader DecodeError Nat) c p = Reader.runAt (if h : p < c.size then (do set (p + 1); pure c[p].toNat) else throw (HasTruncated.truncated p) : Reader DecodeError Nat) c p := rfl
  rw [h0]
  by_cases h : p < c.size
  · rw [dif_pos h, dif_pos h]; rfl
  · rw [dif_neg h, dif_neg h]; rfl
theorem u1_ok {c : ByteArray} {p : Nat} {b : UInt8} (h : c.data.toList[p]? = some b) : Reader.runAt (Reader.u1 : Reader DecodeError Nat) c p = Except.ok (b.toNat, p + 1) := by
  obtain ⟨h1, h2⟩ := List.getElem?_eq_some_iff.mp h
  have hs : p < c.size := h1
  have h3 : c[p] = b := h2
  rw [rd_u1, dif_pos hs, h3]
theorem u1_inv {d : ByteArray} {p x q : Nat} (h : Reader.runAt (Reader.u1 : Reader DecodeError Nat) d p = Except.ok (x, q)) : ∃ b : UInt8, d.data.toList[p]? = some b ∧ x = b.toNat ∧ q = p + 1 := by
  rw [rd_u1] at h
  by_cases hs : p < d.size
  · rw [dif_pos hs] at h
    cases h
    have hl : p < d.data.toList.length := hs
    exact ⟨d[p], List.getElem?_eq_getElem hl, rfl, rfl⟩
  · rw [dif_neg hs] at h; cases h
theorem Sh.u1 : Sh (Reader.u1 : Reader DecodeError Nat) Reader.u1 := fun c d o ha p x q h => by
  obtain ⟨b, h1, rfl, rfl⟩ := u1_inv h
  exact u1_ok (ha p b h1)
theorem Sh.pure {α : Type} (x : α) : Sh (Pure.pure x) (Pure.pure x) := fun c d o ha p y q h => by
  have h1 : (Except.ok (x, p) : Except DecodeError (α × Nat)) = Except.ok (y, q) := h
  cases h1; rfl
theorem Sh.throw {α : Type} (e1 e2 : DecodeError) : Sh (MonadExcept.throw e1 : Reader DecodeError α) (MonadExcept.throw e2) := fun c d o ha p y q h => by
  have h1 : (Except.error e2 : Except DecodeError (α × Nat)) = Except.ok (y, q) := h
  cases h1
theorem Sh.bind {α β : Type} {r s : Reader DecodeError α} {f g : α → Reader DecodeError β} (hr : Sh r s) (hf : ∀ a, Sh (f a) (g a)) : Sh (r >>= f) (s >>= g) := fun c d o ha p x q h => by
  rw [rd_b] at h ⊢
  cases e : Reader.runAt s d p with
  | error z =>
    rw [e] at h
    have h1 : (Except.error z : Except DecodeError (β × Nat)) = Except.ok (x, q) := h
    cases h1
  | ok v =>
    obtain ⟨a, k⟩ := v
    rw [e] at h
    rw [hr c d o ha p a k e]
    exact hf a c d o ha k x q h
theorem Sh.map {α β : Type} {r s : Reader DecodeError α} (g : α → β) (hr : Sh r s) : Sh (g <$> r) (g <$> s) := fun c d o ha p x q h => by
  rw [rd_m] at h ⊢
  cases e : Reader.runAt s d p with
  | error z =>
    rw [e] at h
    have h1 : (Except.error z : Except DecodeError (β × Nat)) = Except.ok (x, q) := h
    cases h1
  | ok v =>
    obtain ⟨a, k⟩ := v
    rw [e] at h
    rw [hr c d o ha p a k e]
    have h1 : (Except.ok (g a, k) : Except DecodeError (β × Nat)) = Except.ok (x, q) := h
    cases h1; rfl
theorem Sh.s1 : Sh (Reader.s1 : Reader DecodeError Int) Reader.s1 := by
  unfold Reader.s1; exact Sh.map _ Sh.u1
theorem Sh.u2 : Sh (Reader.u2 : Reader DecodeError Nat) Reader.u2 := by
  unfold Reader.u2; exact Sh.bind Sh.u1 (fun _ => Sh.bind Sh.u1 (fun _ => Sh.pure _))
theorem Sh.s2 : Sh (Reader.s2 : Reader DecodeError Int) Reader.s2 := by
  unfold Reader.s2; exact Sh.map _ Sh.u2
theorem Sh.u4 : Sh (Reader.u4 : Reader DecodeError Nat) Reader.u4 := by
  unfold Reader.u4; exact Sh.bind Sh.u2 (fun _ => Sh.bind Sh.u2 (fun _ => Sh.pure _))
theorem Sh.s4 : Sh (Reader.s4 : Reader DecodeError Int) Reader.s4 := by
  unfold Reader.s4; exact Sh.map _ Sh.u4
def badop (n : Nat) : Bool := [170, 171, 185, 186, 188, 196, 197].contains n
theorem bindB {α : Type} {f g : Nat → Reader DecodeError α} (hfg : ∀ n, n < 256 → badop n = false → Sh (f n) (g n)) {c d : ByteArray} {o : Nat} (ha : agB c d o) {p : Nat} {x : α} {q : Nat} (hop : ∀ b : UInt8, d.data.toList[p]? = some b → badop b.toNat = false) (h : Reader.runAt (Reader.u1 >>= g) d p = Except.ok (x, q)) : Reader.runAt (Reader.u1 >>= f) c (o + p) = Except.ok (x, o + q) := by
  rw [rd_b] at h ⊢
  cases e : Reader.runAt (Reader.u1 : Reader DecodeError Nat) d p with
  | error z =>
    rw [e] at h
    have h1 : (Except.error z : Except DecodeError (α × Nat)) = Except.ok (x, q) := h
    cases h1
  | ok v =>
    obtain ⟨n, k⟩ := v
    rw [e] at h
    obtain ⟨b, h1, h2, h3⟩ := u1_inv e
    subst h2; subst h3
    rw [u1_ok (ha p b h1)]
    exact hfg b.toNat (show b.toNat < 256 from b.toBitVec.isLt) (hop b h1) c d o ha (p + 1) x q h
theorem lt_cons {Q : Nat → Prop} {k : Nat} (h0 : Q k) (h : ∀ n, n < k → Q n) : ∀ n, n < k + 1 → Q n := fun n hn => by
  rcases Nat.lt_succ_iff_lt_or_eq.mp hn with a | a
  · exact h n a
  · subst a; exact h0
set_option maxRecDepth 20000 in
set_option maxHeartbeats 4000000 in
theorem sh_instr {p1 p2 : Nat} {c d : ByteArray} {o : Nat} (ha : agB c d o) {p : Nat} {x : Instr} {q : Nat} (hop : ∀ b : UInt8, d.data.toList[p]? = some b → badop b.toNat = false) (h : Reader.runAt (Decoder.instr p2) d p = Except.ok (x, q)) : Reader.runAt (Decoder.instr p1) c (o + p) = Except.ok (x, o + q) := by
  unfold Decoder.instr at h ⊢
  refine bindB ?_ ha hop h
  refine lt_cons (fun hb => Sh.throw _ _) ?_
  refine lt_cons (fun hb => Sh.throw _ _) ?_
  refine lt_cons (fun hb => Sh.throw _ _) ?_
  refine lt_cons (fun hb => Sh.throw _ _) ?_
  refine lt_cons (fun hb => Sh.throw _ _) ?_
  refine lt_cons (fun hb => Sh.throw _ _) ?_
  refine lt_cons (fun hb => Sh.throw _ _) ?_
  refine lt_cons (fun hb => Sh.throw _ _) ?_
  refine lt_cons (fun hb => Sh.throw _ _) ?_
  refine lt_cons (fun hb => Sh.throw _ _) ?_
  refine lt_cons (fun hb => Sh.throw _ _) ?_
  refine lt_cons (fun hb => Sh.throw _ _) ?_
  refine lt_cons (fun hb => Sh.throw _ _) ?_
  refine lt_cons (fun hb => Sh.throw _ _) ?_
  refine lt_cons (fun hb => Sh.throw _ _) ?_
  refine lt_cons (fun hb => Sh.throw _ _) ?_
  refine lt_cons (fun hb => Sh.throw _ _) ?_
  refine lt_cons (fun hb => Sh.throw _ _) ?_
  refine lt_cons (fun hb => Sh.throw _ _) ?_
  refine lt_cons (fun hb => Sh.throw _ _) ?_
  refine lt_cons (fun hb => Sh.throw _ _) ?_
  refine lt_cons (fun hb => Sh.throw _ _) ?_
  refine lt_cons (fun hb => Sh.throw _ _) ?_
  refine lt_cons (fun hb => Sh.throw _ _) ?_
  refine lt_cons (fun hb => Sh.throw _ _) ?_
  refine lt_cons (fun hb => Sh.throw _ _) ?_
  refine lt_cons (fun hb => Sh.throw _ _) ?_
  refine lt_cons (fun hb => Sh.throw _ _) ?_
  refine lt_cons (fun hb => Sh.throw _ _) ?_
  refine lt_cons (fun hb => Sh.throw _ _) ?_
  refine lt_cons (fun hb => Sh.throw _ _) ?_
  refine lt_cons (fun hb => Sh.throw _ _) ?_
  refine lt_cons (fun hb => Sh.throw _ _) ?_
  refine lt_cons (fun hb => Sh.throw _ _) ?_
  refine lt_cons (fun hb => Sh.throw _ _) ?_
  refine lt_cons (fun hb => Sh.throw _ _) ?_
  refine lt_cons (fun hb => Sh.throw _ _) ?_
  refine lt_cons (fun hb => Sh.throw _ _) ?_
  refine lt_cons (fun hb => Sh.throw _ _) ?_
  refine lt_cons (fun hb => Sh.throw _ _) ?_
  refine lt_cons (fun hb => Sh.throw _ _) ?_
  refine lt_cons (fun hb => Sh.throw _ _) ?_
  refine lt_cons (fun hb => Sh.throw _ _) ?_
  refine lt_cons (fun hb => Sh.throw _ _) ?_
  refine lt_cons (fun hb => Sh.throw _ _) ?_
  refine lt_cons (fun hb => Sh.throw _ _) ?_
  refine lt_cons (fun hb => Sh.throw _ _) ?_
  refine lt_cons (fun hb => Sh.throw _ _) ?_
  refine lt_cons (fun hb => Sh.throw _ _) ?_
  refine lt_cons (fun hb => Sh.throw _ _) ?_
  refine lt_cons (fun hb => Sh.throw _ _) ?_
  refine lt_cons (fun hb => Sh.throw _ _) ?_
  refine lt_cons (fun hb => Sh.throw _ _) ?_
  refine lt_cons (fun hb => Sh.throw _ _) ?_
  refine lt_cons (fun hb => Sh.bind Sh.s4 (fun _ => Sh.pure _)) ?_
  refine lt_cons (fun hb => Sh.bind Sh.s4 (fun _ => Sh.pure _)) ?_
  refine lt_cons (fun hb => Sh.bind Sh.s2 (fun _ => Sh.pure _)) ?_
  refine lt_cons (fun hb => Sh.bind Sh.s2 (fun _ => Sh.pure _)) ?_
  refine lt_cons (fun hb => (nomatch hb)) ?_
  refine lt_cons (fun hb => (nomatch hb)) ?_
  refine lt_cons (fun hb => Sh.pure _) ?_
  refine lt_cons (fun hb => Sh.pure _) ?_
  refine lt_cons (fun hb => Sh.bind Sh.u2 (fun _ => Sh.pure _)) ?_
  refine lt_cons (fun hb => Sh.bind Sh.u2 (fun _ => Sh.pure _)) ?_
  refine lt_cons (fun hb => Sh.pure _) ?_
  refine lt_cons (fun hb => Sh.pure _) ?_
  refine lt_cons (fun hb => Sh.bind Sh.u2 (fun _ => Sh.pure _)) ?_
  refine lt_cons (fun hb => (nomatch hb)) ?_
  refine lt_cons (fun hb => Sh.bind Sh.u2 (fun _ => Sh.pure _)) ?_
  refine lt_cons (fun hb => (nomatch hb)) ?_
  refine lt_cons (fun hb => (nomatch hb)) ?_
  refine lt_cons (fun hb => Sh.bind Sh.u2 (fun _ => Sh.pure _)) ?_
  refine lt_cons (fun hb => Sh.bind Sh.u2 (fun _ => Sh.pure _)) ?_
  refine lt_cons (fun hb => Sh.bind Sh.u2 (fun _ => Sh.pure _)) ?_
  refine lt_cons (fun hb => Sh.bind Sh.u2 (fun _ => Sh.pure _)) ?_
  refine lt_cons (fun hb => Sh.bind Sh.u2 (fun _ => Sh.pure _)) ?_
  refine lt_cons (fun hb => Sh.bind Sh.u2 (fun _ => Sh.pure _)) ?_
  refine lt_cons (fun hb => Sh.bind Sh.u2 (fun _ => Sh.pure _)) ?_
  refine lt_cons (fun hb => Sh.pure _) ?_
  refine lt_cons (fun hb => Sh.pure _) ?_
  refine lt_cons (fun hb => Sh.pure _) ?_
  refine lt_cons (fun hb => Sh.pure _) ?_
  refine lt_cons (fun hb => Sh.pure _) ?_
  refine lt_cons (fun hb => Sh.pure _) ?_
  refine lt_cons (fun hb => (nomatch hb)) ?_
  refine lt_cons (fun hb => (nomatch hb)) ?_
  refine lt_cons (fun hb => Sh.bind Sh.u1 (fun _ => Sh.pure _)) ?_
  refine lt_cons (fun hb => Sh.bind Sh.s2 (fun _ => Sh.pure _)) ?_
  refine lt_cons (fun hb => Sh.bind Sh.s2 (fun _ => Sh.pure _)) ?_
  refine lt_cons (fun hb => Sh.bind Sh.s2 (fun _ => Sh.pure _)) ?_
  refine lt_cons (fun hb => Sh.bind Sh.s2 (fun _ => Sh.pure _)) ?_
  refine lt_cons (fun hb => Sh.bind Sh.s2 (fun _ => Sh.pure _)) ?_
  refine lt_cons (fun hb => Sh.bind Sh.s2 (fun _ => Sh.pure _)) ?_
  refine lt_cons (fun hb => Sh.bind Sh.s2 (fun _ => Sh.pure _)) ?_
  refine lt_cons (fun hb => Sh.bind Sh.s2 (fun _ => Sh.pure _)) ?_
  refine lt_cons (fun hb => Sh.bind Sh.s2 (fun _ => Sh.pure _)) ?_
  refine lt_cons (fun hb => Sh.bind Sh.s2 (fun _ => Sh.pure _)) ?_
  refine lt_cons (fun hb => Sh.bind Sh.s2 (fun _ => Sh.pure _)) ?_
  refine lt_cons (fun hb => Sh.bind Sh.s2 (fun _ => Sh.pure _)) ?_
  refine lt_cons (fun hb => Sh.bind Sh.s2 (fun _ => Sh.pure _)) ?_
  refine lt_cons (fun hb => Sh.bind Sh.s2 (fun _ => Sh.pure _)) ?_
  refine lt_cons (fun hb => Sh.bind Sh.s2 (fun _ => Sh.pure _)) ?_
  refine lt_cons (fun hb => Sh.bind Sh.s2 (fun _ => Sh.pure _)) ?_
  refine lt_cons (fun hb => Sh.pure _) ?_
  refine lt_cons (fun hb => Sh.pure _) ?_
  refine lt_cons (fun hb => Sh.pure _) ?_
  refine lt_cons (fun hb => Sh.pure _) ?_
  refine lt_cons (fun hb => Sh.pure _) ?_
  refine lt_cons (fun hb => Sh.pure _) ?_
  refine lt_cons (fun hb => Sh.pure _) ?_
  refine lt_cons (fun hb => Sh.pure _) ?_
  refine lt_cons (fun hb => Sh.pure _) ?_
  refine lt_cons (fun hb => Sh.pure _) ?_
  refine lt_cons (fun hb => Sh.pure _) ?_
  refine lt_cons (fun hb => Sh.pure _) ?_
  refine lt_cons (fun hb => Sh.pure _) ?_
  refine lt_cons (fun hb => Sh.pure _) ?_
  refine lt_cons (fun hb => Sh.pure _) ?_
  refine lt_cons (fun hb => Sh.pure _) ?_
  refine lt_cons (fun hb => Sh.pure _) ?_
  refine lt_cons (fun hb => Sh.pure _) ?_
  refine lt_cons (fun hb => Sh.pure _) ?_
  refine lt_cons (fun hb => Sh.pure _) ?_
  refine lt_cons (fun hb => Sh.bind Sh.u1 (fun _ => Sh.bind Sh.s1 (fun _ => Sh.pure _))) ?_
  refine lt_cons (fun hb => Sh.pure _) ?_
  refine lt_cons (fun hb => Sh.pure _) ?_
  refine lt_cons (fun hb => Sh.pure _) ?_
  refine lt_cons (fun hb => Sh.pure _) ?_
  refine lt_cons (fun hb => Sh.pure _) ?_
  refine lt_cons (fun hb => Sh.pure _) ?_
  refine lt_cons (fun hb => Sh.pure _) ?_
  refine lt_cons (fun hb => Sh.pure _) ?_
  refine lt_cons (fun hb => Sh.pure _) ?_
  refine lt_cons (fun hb => Sh.pure _) ?_
  refine lt_cons (fun hb => Sh.pure _) ?_
  refine lt_cons (fun hb => Sh.pure _) ?_
  refine lt_cons (fun hb => Sh.pure _) ?_
  refine lt_cons (fun hb => Sh.pure _) ?_
  refine lt_cons (fun hb => Sh.pure _) ?_
  refine lt_cons (fun hb => Sh.pure _) ?_
  refine lt_cons (fun hb => Sh.pure _) ?_
  refine lt_cons (fun hb => Sh.pure _) ?_
  refine lt_cons (fun hb => Sh.pure _) ?_
  refine lt_cons (fun hb => Sh.pure _) ?_
  refine lt_cons (fun hb => Sh.pure _) ?_
  refine lt_cons (fun hb => Sh.pure _) ?_
  refine lt_cons (fun hb => Sh.pure _) ?_
  refine lt_cons (fun hb => Sh.pure _) ?_
  refine lt_cons (fun hb => Sh.pure _) ?_
  refine lt_cons (fun hb => Sh.pure _) ?_
  refine lt_cons (fun hb => Sh.pure _) ?_
  refine lt_cons (fun hb => Sh.pure _) ?_
  refine lt_cons (fun hb => Sh.pure _) ?_
  refine lt_cons (fun hb => Sh.pure _) ?_
  refine lt_cons (fun hb => Sh.pure _) ?_
  refine lt_cons (fun hb => Sh.pure _) ?_
  refine lt_cons (fun hb => Sh.pure _) ?_
  refine lt_cons (fun hb => Sh.pure _) ?_
  refine lt_cons (fun hb => Sh.pure _) ?_
  refine lt_cons (fun hb => Sh.pure _) ?_
  refine lt_cons (fun hb => Sh.pure _) ?_
  refine lt_cons (fun hb => Sh.pure _) ?_
  refine lt_cons (fun hb => Sh.pure _) ?_
  refine lt_cons (fun hb => Sh.pure _) ?_
  refine lt_cons (fun hb => Sh.pure _) ?_
  refine lt_cons (fun hb => Sh.pure _) ?_
  refine lt_cons (fun hb => Sh.pure _) ?_
  refine lt_cons (fun hb => Sh.pure _) ?_
  refine lt_cons (fun hb => Sh.pure _) ?_
  refine lt_cons (fun hb => Sh.pure _) ?_
  refine lt_cons (fun hb => Sh.pure _) ?_
  refine lt_cons (fun hb => Sh.pure _) ?_
  refine lt_cons (fun hb => Sh.pure _) ?_
  refine lt_cons (fun hb => Sh.pure _) ?_
  refine lt_cons (fun hb => Sh.pure _) ?_
  refine lt_cons (fun hb => Sh.pure _) ?_
  refine lt_cons (fun hb => Sh.pure _) ?_
  refine lt_cons (fun hb => Sh.pure _) ?_
  refine lt_cons (fun hb => Sh.pure _) ?_
  refine lt_cons (fun hb => Sh.pure _) ?_
  refine lt_cons (fun hb => Sh.pure _) ?_
  refine lt_cons (fun hb => Sh.pure _) ?_
  refine lt_cons (fun hb => Sh.pure _) ?_
  refine lt_cons (fun hb => Sh.pure _) ?_
  refine lt_cons (fun hb => Sh.pure _) ?_
  refine lt_cons (fun hb => Sh.pure _) ?_
  refine lt_cons (fun hb => Sh.pure _) ?_
  refine lt_cons (fun hb => Sh.pure _) ?_
  refine lt_cons (fun hb => Sh.pure _) ?_
  refine lt_cons (fun hb => Sh.pure _) ?_
  refine lt_cons (fun hb => Sh.pure _) ?_
  refine lt_cons (fun hb => Sh.pure _) ?_
  refine lt_cons (fun hb => Sh.pure _) ?_
  refine lt_cons (fun hb => Sh.pure _) ?_
  refine lt_cons (fun hb => Sh.pure _) ?_
  refine lt_cons (fun hb => Sh.pure _) ?_
  refine lt_cons (fun hb => Sh.pure _) ?_
  refine lt_cons (fun hb => Sh.bind Sh.u1 (fun _ => Sh.pure _)) ?_
  refine lt_cons (fun hb => Sh.bind Sh.u1 (fun _ => Sh.pure _)) ?_
  refine lt_cons (fun hb => Sh.bind Sh.u1 (fun _ => Sh.pure _)) ?_
  refine lt_cons (fun hb => Sh.bind Sh.u1 (fun _ => Sh.pure _)) ?_
  refine lt_cons (fun hb => Sh.bind Sh.u1 (fun _ => Sh.pure _)) ?_
  refine lt_cons (fun hb => Sh.pure _) ?_
  refine lt_cons (fun hb => Sh.pure _) ?_
  refine lt_cons (fun hb => Sh.pure _) ?_
  refine lt_cons (fun hb => Sh.pure _) ?_
  refine lt_cons (fun hb => Sh.pure _) ?_
  refine lt_cons (fun hb => Sh.pure _) ?_
  refine lt_cons (fun hb => Sh.pure _) ?_
  refine lt_cons (fun hb => Sh.pure _) ?_
  refine lt_cons (fun hb => Sh.pure _) ?_
  refine lt_cons (fun hb => Sh.pure _) ?_
  refine lt_cons (fun hb => Sh.pure _) ?_
  refine lt_cons (fun hb => Sh.pure _) ?_
  refine lt_cons (fun hb => Sh.pure _) ?_
  refine lt_cons (fun hb => Sh.pure _) ?_
  refine lt_cons (fun hb => Sh.pure _) ?_
  refine lt_cons (fun hb => Sh.pure _) ?_
  refine lt_cons (fun hb => Sh.pure _) ?_
  refine lt_cons (fun hb => Sh.pure _) ?_
  refine lt_cons (fun hb => Sh.pure _) ?_
  refine lt_cons (fun hb => Sh.pure _) ?_
  refine lt_cons (fun hb => Sh.pure _) ?_
  refine lt_cons (fun hb => Sh.pure _) ?_
  refine lt_cons (fun hb => Sh.pure _) ?_
  refine lt_cons (fun hb => Sh.pure _) ?_
  refine lt_cons (fun hb => Sh.pure _) ?_
  refine lt_cons (fun hb => Sh.pure _) ?_
  refine lt_cons (fun hb => Sh.pure _) ?_
  refine lt_cons (fun hb => Sh.pure _) ?_
  refine lt_cons (fun hb => Sh.bind Sh.u1 (fun _ => Sh.pure _)) ?_
  refine lt_cons (fun hb => Sh.bind Sh.u1 (fun _ => Sh.pure _)) ?_
  refine lt_cons (fun hb => Sh.bind Sh.u1 (fun _ => Sh.pure _)) ?_
  refine lt_cons (fun hb => Sh.bind Sh.u1 (fun _ => Sh.pure _)) ?_
  refine lt_cons (fun hb => Sh.bind Sh.u1 (fun _ => Sh.pure _)) ?_
  refine lt_cons (fun hb => Sh.bind Sh.u2 (fun _ => Sh.pure _)) ?_
  refine lt_cons (fun hb => Sh.bind Sh.u2 (fun _ => Sh.pure _)) ?_
  refine lt_cons (fun hb => Sh.bind Sh.u1 (fun _ => Sh.pure _)) ?_
  refine lt_cons (fun hb => Sh.bind Sh.s2 (fun _ => Sh.pure _)) ?_
  refine lt_cons (fun hb => Sh.bind Sh.s1 (fun _ => Sh.pure _)) ?_
  refine lt_cons (fun hb => Sh.pure _) ?_
  refine lt_cons (fun hb => Sh.pure _) ?_
  refine lt_cons (fun hb => Sh.pure _) ?_
  refine lt_cons (fun hb => Sh.pure _) ?_
  refine lt_cons (fun hb => Sh.pure _) ?_
  refine lt_cons (fun hb => Sh.pure _) ?_
  refine lt_cons (fun hb => Sh.pure _) ?_
  refine lt_cons (fun hb => Sh.pure _) ?_
  refine lt_cons (fun hb => Sh.pure _) ?_
  refine lt_cons (fun hb => Sh.pure _) ?_
  refine lt_cons (fun hb => Sh.pure _) ?_
  refine lt_cons (fun hb => Sh.pure _) ?_
  refine lt_cons (fun hb => Sh.pure _) ?_
  refine lt_cons (fun hb => Sh.pure _) ?_
  refine lt_cons (fun hb => Sh.pure _) ?_
  refine lt_cons (fun hb => Sh.pure _) ?_
  exact fun n hn => absurd hn (Nat.not_lt_zero n)
def okop (d : ByteArray) (p : Nat) : Bool := match d.data.toList[p]? with
  | some b => !(badop b.toNat)
  | none => true
theorem decode_sh {c d : ByteArray} {o p : Nat} {r : Instr × Nat} (ha : agB c d o) (hop : okop d p = true) (h : decode d p = Except.ok r) : decode c (o + p) = Except.ok r := by
  obtain ⟨i, n⟩ := r
  have ho : ∀ b : UInt8, d.data.toList[p]? = some b → badop b.toNat = false := fun b e => by
    unfold okop at hop; rw [e] at hop
    simpa using hop
  unfold decode at h ⊢
  cases e : Reader.runAt (Decoder.instr p) d p with
  | error z =>
    rw [e] at h
    have h1 : (Except.error z : Except DecodeError (Instr × Nat)) = Except.ok (i, n) := h
    cases h1
  | ok v =>
    obtain ⟨x, q⟩ := v
    rw [e] at h
    have h1 : (Except.ok (x, q - p) : Except DecodeError (Instr × Nat)) = Except.ok (i, n) := h
    have h2 := Prod.mk.inj (Except.ok.inj h1)
    rw [sh_instr (p1 := o + p) ha ho e]
    show (Except.ok (x, o + q - (o + p)) : Except DecodeError (Instr × Nat)) = Except.ok (i, n)
    rw [Nat.add_sub_add_left, h2.1, h2.2]
theorem dgq {c d : ByteArray} {o p : Nat} {r : Instr × Nat} (ha : agB c d o) (h : decode d p = Except.ok r ∧ okop d p = true) : decode c (o + p) = Except.ok r := decode_sh ha h.2 h.1
