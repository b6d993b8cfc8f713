/-! THE POOL: the heap of both systems as one value -/
abbrev vwCl : List vw_C := [(RJ0, TJ0, 2), (RJ4, TJ4, 4), (RJx00060, TJx00060, 6), (RJx4a65c, TJx4a65c, 3), (RX0, TX0, 7), (RX1, TX1, 3), (RX2, TX2, 20), (RX3, TX3, 6), (RX4, TX4, 9), (RX5, TX5, 6), (RX6, TX6, 5), (RX7, TX7, 4), (RX8, TX8, 5), (RX9, TX9, 11), (RX10, TX10, 23), (RX11, TX11, 7), (RX12, TX12, 34)]
def wPS : Type := List Nat × (Nat → Nat) × (Nat → Nat → Int32) × (Nat → Nat → Int64) × (Nat → Nat → Option Nat) × (Nat → Nat) × (Nat → Nat → Int32) × (Nat → Nat → Option Nat)
def wPS.L (S : wPS) : List Nat := S.1
def wPS.K (S : wPS) : Nat → Nat := S.2.1
def wPS.I (S : wPS) : Nat → Nat → Int32 := S.2.2.1
def wPS.J (S : wPS) : Nat → Nat → Int64 := S.2.2.2.1
def wPS.F (S : wPS) : Nat → Nat → Option Nat := S.2.2.2.2.1
def wPS.n (S : wPS) : Nat → Nat := S.2.2.2.2.2.1
def wPS.i (S : wPS) : Nat → Nat → Int32 := S.2.2.2.2.2.2.1
def wPS.r (S : wPS) : Nat → Nat → Option Nat := S.2.2.2.2.2.2.2
def wPS.mk (L : List Nat) (K : Nat → Nat) (I : Nat → Nat → Int32) (J : Nat → Nat → Int64) (F : Nat → Nat → Option Nat) (n : Nat → Nat) (i : Nat → Nat → Int32) (r : Nat → Nat → Option Nat) : wPS := (L, K, I, J, F, n, i, r)
def wPS.sI (S : wPS) (a j : Nat) (v : Int32) : wPS := .mk S.L S.K (va_up S.I a (va_up (S.I a) j v)) S.J S.F S.n S.i S.r
def wPS.sJ (S : wPS) (a j : Nat) (v : Int64) : wPS := .mk S.L S.K S.I (va_up S.J a (va_up (S.J a) j v)) S.F S.n S.i S.r
def wPS.sF (S : wPS) (a j : Nat) (v : Option Nat) : wPS := .mk S.L S.K S.I S.J (va_up S.F a (va_up (S.F a) j v)) S.n S.i S.r
def wPS.si (S : wPS) (a : Nat) (f : Nat → Int32) : wPS := .mk S.L S.K S.I S.J S.F S.n (va_up S.i a f) S.r
def wPS.sr (S : wPS) (a : Nat) (f : Nat → Option Nat) : wPS := .mk S.L S.K S.I S.J S.F S.n S.i (va_up S.r a f)
/-- a new thing at a, all its fields as the machine makes them -/
def wPS.nw (S : wPS) (a k z : Nat) (f : Nat → Int32) (g : Nat → Option Nat) : wPS := .mk (S.L ++ [a]) (va_up S.K a k) (va_up S.I a (fun _ => 0)) (va_up S.J a (fun _ => 0)) (va_up S.F a (fun _ => none)) (va_up S.n a z) (va_up S.i a f) (va_up S.r a g)
/-- what a thing of kind k holds -/
def kE (cy : Nat → ClassId) (k : Nat) (fi : Nat → Int32) (fl : Nat → Int64) (fr : Nat → Option Nat) (n : Nat) (ri : Nat → Int32) (rr : Nat → Option Nat) : va_E := match k with
  | 0 => .inr (4, [va_rf (fr 0), va_rf (fr 1), .int (fi 2), .long (fl 3), .long (fl 4), .long (fl 5), .long (fl 6)])
  | 1 => .inr (5, [va_rf (fr 0), va_rf (fr 1), .int (fi 2)])
  | 2 => .inr (6, [.int (fi 0), .int (fi 1), .int (fi 2), .int (fi 3), .int (fi 4), va_rf (fr 5), va_rf (fr 6), .int (fi 7), .int (fi 8), .int (fi 9), .int (fi 10), .int (fi 11), .int (fi 12), .int (fi 13), .int (fi 14), .int (fi 15), .int (fi 16), .int (fi 17), .long (fl 18), .int (fi 19)])
  | 3 => .inr (7, [.int (fi 0), .int (fi 1), va_rf (fr 2), .int (fi 3), .int (fi 4), .int (fi 5)])
  | 4 => .inr (8, [va_rf (fr 0), va_rf (fr 1), va_rf (fr 2), va_rf (fr 3), va_rf (fr 4), va_rf (fr 5), .int (fi 6), .int (fi 7), .int (fi 8)])
  | 5 => .inr (9, [.int (fi 0), .int (fi 1), .int (fi 2), .int (fi 3), .int (fi 4), .int (fi 5)])
  | 6 => .inr (10, [va_rf (fr 0), va_rf (fr 1), va_rf (fr 2), va_rf (fr 3), .int (fi 4)])
  | 7 => .inr (11, [.int (fi 0), .int (fi 1), .int (fi 2), .int (fi 3)])
  | 8 => .inr (12, [.int (fi 0), .int (fi 1), .int (fi 2), .int (fi 3), .long (fl 4)])
  | 9 => .inr (13, [va_rf (fr 0), .int (fi 1), va_rf (fr 2), .int (fi 3), va_rf (fr 4), .int (fi 5), va_rf (fr 6), va_rf (fr 7), va_rf (fr 8), .int (fi 9), .int (fi 10)])
  | 10 => .inr (14, [.int (fi 0), .int (fi 1), .int (fi 2), .int (fi 3), .int (fi 4), va_rf (fr 5), va_rf (fr 6), .int (fi 7), .int (fi 8), .int (fi 9), .int (fi 10), .int (fi 11), .int (fi 12), .int (fi 13), .int (fi 14), .int (fi 15), .int (fi 16), .int (fi 17), .int (fi 18), .int (fi 19), .int (fi 20), .int (fi 21), .long (fl 22)])
  | 11 => .inr (15, [.int (fi 0), .int (fi 1), va_rf (fr 2), .int (fi 3), .int (fi 4), .int (fi 5), .int (fi 6)])
  | 12 => .inr (16, [va_rf (fr 0), va_rf (fr 1), va_rf (fr 2), va_rf (fr 3), va_rf (fr 4), va_rf (fr 5), va_rf (fr 6), va_rf (fr 7), va_rf (fr 8), va_rf (fr 9), va_rf (fr 10), va_rf (fr 11), va_rf (fr 12), va_rf (fr 13), va_rf (fr 14), .int (fi 15), .int (fi 16), .int (fi 17), .int (fi 18), .int (fi 19), .int (fi 20), .int (fi 21), .int (fi 22), .int (fi 23), .int (fi 24), .int (fi 25), .int (fi 26), .long (fl 27), .long (fl 28), va_rf (fr 29), va_rf (fr 30), va_rf (fr 31), va_rf (fr 32), va_rf (fr 33)])
  | 13 => .inr (1, [va_rf (fr 0), .int (fi 1), .int (fi 2), .int (fi 3)])
  | 14 => .inr (3, [.int (fi 0), va_rf (fr 1), .int (fi 2)])
  | 15 => .inl (cy 0, n, .inl ri)
  | 16 => .inl (cy 1, n, .inl ri)
  | 17 => .inl (cy 2, n, .inl ri)
  | 18 => .inl (cy 3, n, .inl ri)
  | 19 => .inl (cy 4, n, .inr (.inr (.inr (.inr rr))))
  | 20 => .inl (cy 5, n, .inr (.inr (.inr (.inr rr))))
  | 21 => .inl (cy 6, n, .inr (.inr (.inr (.inr rr))))
  | 23 => .inl (cy 2, n, .inl ri)
  | 24 => .inl (cy 4, n, .inr (.inr (.inr (.inr rr))))
  | 25 => .inl (cy 2, n, .inl ri)
  | 26 => .inl (cy 2, n, .inl ri)
  | 27 => .inl (cy 2, n, .inl ri)
  | 28 => .inl (cy 2, n, .inl ri)
  | 29 => .inl (cy 2, n, .inl ri)
  | 30 => .inl (cy 2, n, .inl ri)
  | 31 => .inl (cy 2, n, .inl ri)
  | 34 => .inl (cy 2, n, .inl ri)
  | 35 => .inl (cy 2, n, .inl ri)
  | 36 => .inl (cy 2, n, .inl ri)
  | 37 => .inl (cy 1, n, .inl ri)
  | 38 => .inl (cy 1, n, .inl ri)
  | _ => .inl (cy 7, n, .inr (.inr (.inr (.inr rr))))
def wPF (cy : Nat → ClassId) (S : wPS) : Nat → va_E := fun a => kE cy (S.K a) (S.I a) (S.J a) (S.F a) (S.n a) (S.i a) (S.r a)
abbrev PL (cy : Nat → ClassId) (S : wPS) : va_W := va_pl S.L (wPF cy S)
abbrev tyL (cy : Nat → ClassId) : List (ClassId × FieldType) := [(cy 0, .byte), (cy 1, .char), (cy 2, .int), (cy 3, .boolean), (cy 4, .object "Hobhouse$Gear"), (cy 5, .object "Hobhouse$Hob"), (cy 6, .object "Hobhouse$Station"), (cy 7, .object "java/lang/Object")]
def nest0 : List Cond := [.fieldLinkNest "Hobhouse" 414 "Hobhouse$Matching" "leastSum" "I" "Hobhouse", .fieldLinkNest "Hobhouse" 201 "Hobhouse$Train" "first" "I" "Hobhouse", .fieldLinkNest "Hobhouse" 206 "Hobhouse$Train" "second" "I" "Hobhouse", .fieldLinkNest "Hobhouse" 485 "Hobhouse$OldGear" "module" "I" "Hobhouse", .fieldLinkNest "Hobhouse" 488 "Hobhouse$OldGear" "shift" "I" "Hobhouse", .fieldLinkNest "HobhouseModel$Hob" 39 "HobhouseModel$Gear" "teeth" "I" "HobhouseModel", .fieldLinkNest "HobhouseModel" 332 "HobhouseModel$Gear" "teeth" "I" "HobhouseModel", .fieldLinkNest "HobhouseModel$Hob" 36 "HobhouseModel$Gear" "module" "I" "HobhouseModel", .fieldLinkNest "HobhouseModel" 115 "HobhouseModel$Gear" "module" "I" "HobhouseModel", .fieldLinkNest "HobhouseModel$Hob" 52 "HobhouseModel$Gear" "helix" "I" "HobhouseModel", .fieldLinkNest "HobhouseModel" 118 "HobhouseModel$Gear" "helix" "I" "HobhouseModel", .fieldLinkNest "HobhouseModel" 209 "HobhouseModel$Gear" "width" "I" "HobhouseModel", .fieldLinkNest "HobhouseModel" 403 "HobhouseModel$Gear" "errors" "[I" "HobhouseModel", .fieldLinkNest "HobhouseModel" 490 "HobhouseModel$Gear" "route" "[C" "HobhouseModel", .fieldLinkNest "HobhouseModel" 164 "HobhouseModel$Gear" "shift" "I" "HobhouseModel", .fieldLinkNest "HobhouseModel$Hob" 42 "HobhouseModel$Gear" "room" "I" "HobhouseModel", .fieldLinkNest "HobhouseModel" 337 "HobhouseModel$Gear" "room" "I" "HobhouseModel", .fieldLinkNest "HobhouseModel" 356 "HobhouseModel$Gear" "stock" "I" "HobhouseModel", .fieldLinkNest "HobhouseModel" 362 "HobhouseModel$Gear" "profile" "I" "HobhouseModel", .fieldLinkNest "HobhouseModel" 365 "HobhouseModel$Gear" "starts" "I" "HobhouseModel", .fieldLinkNest "HobhouseModel" 383 "HobhouseModel$Gear" "depth" "I" "HobhouseModel", .fieldLinkNest "HobhouseModel" 397 "HobhouseModel$Gear" "ground" "I" "HobhouseModel", .fieldLinkNest "HobhouseModel" 386 "HobhouseModel$Gear" "need" "I" "HobhouseModel", .fieldLinkNest "HobhouseModel" 389 "HobhouseModel$Gear" "had" "I" "HobhouseModel", .fieldLinkNest "HobhouseModel" 446 "HobhouseModel$Gear" "mate" "I" "HobhouseModel", .fieldLinkNest "HobhouseModel" 488 "HobhouseModel$Gear" "kinds" "I" "HobhouseModel", .fieldLinkNest "HobhouseModel" 160 "HobhouseModel$Gear" "isCut" "Z" "HobhouseModel", .fieldLinkNest "HobhouseModel" 369 "HobhouseModel$Gear" "isHard" "Z" "HobhouseModel", .fieldLinkNest "HobhouseModel" 372 "HobhouseModel$Gear" "isScrap" "Z" "HobhouseModel", .fieldLinkNest "HobhouseModel" 400 "HobhouseModel$Gear" "isGround" "Z" "HobhouseModel", .fieldLinkNest "HobhouseModel" 455 "HobhouseModel$Gear" "damage" "J" "HobhouseModel", .fieldLinkNest "HobhouseModel" 329 "HobhouseModel$Hob" "starts" "I" "HobhouseModel", .fieldLinkNest "HobhouseModel" 350 "HobhouseModel$Hob" "wear" "[I" "HobhouseModel", .fieldLinkNest "HobhouseModel" 353 "HobhouseModel$Hob" "places" "I" "HobhouseModel", .fieldLinkNest "HobhouseModel" 366 "HobhouseModel$Hob" "diameter" "I" "HobhouseModel", .fieldLinkNest "HobhouseModel" 347 "HobhouseModel$Hob" "next" "I" "HobhouseModel", .fieldLinkNest "HobhouseModel" 359 "HobhouseModel$Hob" "error" "I" "HobhouseModel", .methodLinkNest "Hobhouse" 29 ⟨"Hobhouse$Box", "<init>", "()V"⟩ "Hobhouse", .methodLinkNest "Hobhouse" 36 ⟨"Hobhouse$Rolling", "<init>", "()V"⟩ "Hobhouse", .methodLinkNest "Hobhouse" 43 ⟨"Hobhouse$Matching", "<init>", "()V"⟩ "Hobhouse", .methodLinkNest "Hobhouse$Rolling" 33 ⟨"Hobhouse", "commonDivisor", "(II)I"⟩ "Hobhouse", .methodLinkNest "Hobhouse$Gear" 49 ⟨"Hobhouse", "tipOf", "(III)I"⟩ "Hobhouse", .methodLinkNest "Hobhouse$Gear" 72 ⟨"Hobhouse", "root", "(J)J"⟩ "Hobhouse", .methodLinkNest "Hobhouse$Gear" 53 ⟨"Hobhouse", "undercuts", "(II)Z"⟩ "Hobhouse", .methodLinkNest "Hobhouse$Gear" 57 ⟨"Hobhouse", "sharpens", "(II)Z"⟩ "Hobhouse", .methodLinkNest "Hobhouse$Train" 50 ⟨"Hobhouse", "commonDivisor", "(II)I"⟩ "Hobhouse", .methodLinkNest "Hobhouse$Hob" 29 ⟨"Hobhouse", "root", "(J)J"⟩ "Hobhouse", .methodLinkNest "Hobhouse$Gear" 131 ⟨"Hobhouse", "gradeOf", "(I)I"⟩ "Hobhouse", .methodLinkNest "Hobhouse$OldGear" 33 ⟨"Hobhouse", "tipOf", "(III)I"⟩ "Hobhouse", .methodLinkNest "HobhouseModel$Gear" 57 ⟨"HobhouseModel", "root", "(J)J"⟩ "HobhouseModel", .methodLinkNest "HobhouseModel$Hob" 32 ⟨"HobhouseModel", "root", "(J)J"⟩ "HobhouseModel", .methodLinkNest "HobhouseModel$Gear" 122 ⟨"HobhouseModel", "gradeOf", "(I)I"⟩ "HobhouseModel", .castable "HobhouseModel$Gear" "java/lang/Object", .castable "HobhouseModel$Hob" "java/lang/Object"]
def aoW : List Cond := [.arrayOver (.object "Hobhouse$Gear"), .arrayOver (.object "Hobhouse$Hob"), .arrayOver (.object "Hobhouse$Station"), .arrayOver (.object "java/lang/Object")]
def nestW : List Cond := nest0 ++ aoW
def NW (U : State) : Prop := ∀ w ∈ nestW, va_Nw w U
theorem nest_ok : ∀ w ∈ nest0, w.onTables = true := by decide +kernel
theorem ao_same {c : String} {u U : State} (h : u.vm = U.vm) (hN : va_Nw (.arrayOver (.object c)) u) : va_Nw (.arrayOver (.object c)) U := va_AO.moved (by rw [h]; exact Vm.Alike.refl _) hN
theorem NW.same {u U : State} (h : u.vm = U.vm) (hN : NW u) : NW U := fun w hw => by
  rcases List.mem_append.mp hw with h1 | h1
  · exact va_Nw.same (nest_ok w h1) h (hN w hw)
  · simp only [aoW, List.mem_cons, List.not_mem_nil, or_false] at h1
    rcases h1 with rfl | rfl | rfl | rfl <;> exact ao_same h (hN _ hw)
theorem NW.warm {s U : State} (hW : s.WarmedH U.vm) (hN : NW s) : NW U := by
  have key : ∀ ws : List Cond, (∀ w ∈ ws, (∃ a i b n d h, w = .fieldLinkNest a i b n d h) ∨ (∃ a i x h, w = .methodLinkNest a i x h) ∨ (∃ c, w = .arrayOver (.object c)) ∨ ∃ a c, w = .castable a c) → (∀ w ∈ ws, va_Nw w s) → ∀ w ∈ ws, va_Nw w U := by
    intro ws h1 h2 w hw
    rcases h1 w hw with ⟨a, i, b, n, d, h, rfl⟩ | ⟨a, i, x, h, rfl⟩ | ⟨c, rfl⟩ | ⟨a, c, rfl⟩
    · exact va_Nw.warmF hW (h2 _ hw)
    · exact va_Nw.warmM hW (h2 _ hw)
    · exact va_AO.moved hW.alike (h2 _ hw)
    · exact va_Nw.warmC hW (h2 _ hw)
  refine key nestW (fun w hw => ?_) hN
  simp only [nestW, nest0, aoW, List.cons_append, List.nil_append, List.mem_cons, List.not_mem_nil, or_false] at hw
  rcases hw with rfl | rfl | rfl | rfl | rfl | rfl | rfl | rfl | rfl | rfl | rfl | rfl | rfl | rfl | rfl | rfl | rfl | rfl | rfl | rfl | rfl | rfl | rfl | rfl | rfl | rfl | rfl | rfl | rfl | rfl | rfl | rfl | rfl | rfl | rfl | rfl | rfl | rfl | rfl | rfl | rfl | rfl | rfl | rfl | rfl | rfl | rfl | rfl | rfl | rfl | rfl | rfl | rfl | rfl | rfl | rfl | rfl | rfl
  · exact Or.inl ⟨_, _, _, _, _, _, rfl⟩
  · exact Or.inl ⟨_, _, _, _, _, _, rfl⟩
  · exact Or.inl ⟨_, _, _, _, _, _, rfl⟩
  · exact Or.inl ⟨_, _, _, _, _, _, rfl⟩
  · exact Or.inl ⟨_, _, _, _, _, _, rfl⟩
  · exact Or.inl ⟨_, _, _, _, _, _, rfl⟩
  · exact Or.inl ⟨_, _, _, _, _, _, rfl⟩
  · exact Or.inl ⟨_, _, _, _, _, _, rfl⟩
  · exact Or.inl ⟨_, _, _, _, _, _, rfl⟩
  · exact Or.inl ⟨_, _, _, _, _, _, rfl⟩
  · exact Or.inl ⟨_, _, _, _, _, _, rfl⟩
  · exact Or.inl ⟨_, _, _, _, _, _, rfl⟩
  · exact Or.inl ⟨_, _, _, _, _, _, rfl⟩
  · exact Or.inl ⟨_, _, _, _, _, _, rfl⟩
  · exact Or.inl ⟨_, _, _, _, _, _, rfl⟩
  · exact Or.inl ⟨_, _, _, _, _, _, rfl⟩
  · exact Or.inl ⟨_, _, _, _, _, _, rfl⟩
  · exact Or.inl ⟨_, _, _, _, _, _, rfl⟩
  · exact Or.inl ⟨_, _, _, _, _, _, rfl⟩
  · exact Or.inl ⟨_, _, _, _, _, _, rfl⟩
  · exact Or.inl ⟨_, _, _, _, _, _, rfl⟩
  · exact Or.inl ⟨_, _, _, _, _, _, rfl⟩
  · exact Or.inl ⟨_, _, _, _, _, _, rfl⟩
  · exact Or.inl ⟨_, _, _, _, _, _, rfl⟩
  · exact Or.inl ⟨_, _, _, _, _, _, rfl⟩
  · exact Or.inl ⟨_, _, _, _, _, _, rfl⟩
  · exact Or.inl ⟨_, _, _, _, _, _, rfl⟩
  · exact Or.inl ⟨_, _, _, _, _, _, rfl⟩
  · exact Or.inl ⟨_, _, _, _, _, _, rfl⟩
  · exact Or.inl ⟨_, _, _, _, _, _, rfl⟩
  · exact Or.inl ⟨_, _, _, _, _, _, rfl⟩
  · exact Or.inl ⟨_, _, _, _, _, _, rfl⟩
  · exact Or.inl ⟨_, _, _, _, _, _, rfl⟩
  · exact Or.inl ⟨_, _, _, _, _, _, rfl⟩
  · exact Or.inl ⟨_, _, _, _, _, _, rfl⟩
  · exact Or.inl ⟨_, _, _, _, _, _, rfl⟩
  · exact Or.inl ⟨_, _, _, _, _, _, rfl⟩
  · exact Or.inr (Or.inl ⟨_, _, _, _, rfl⟩)
  · exact Or.inr (Or.inl ⟨_, _, _, _, rfl⟩)
  · exact Or.inr (Or.inl ⟨_, _, _, _, rfl⟩)
  · exact Or.inr (Or.inl ⟨_, _, _, _, rfl⟩)
  · exact Or.inr (Or.inl ⟨_, _, _, _, rfl⟩)
  · exact Or.inr (Or.inl ⟨_, _, _, _, rfl⟩)
  · exact Or.inr (Or.inl ⟨_, _, _, _, rfl⟩)
  · exact Or.inr (Or.inl ⟨_, _, _, _, rfl⟩)
  · exact Or.inr (Or.inl ⟨_, _, _, _, rfl⟩)
  · exact Or.inr (Or.inl ⟨_, _, _, _, rfl⟩)
  · exact Or.inr (Or.inl ⟨_, _, _, _, rfl⟩)
  · exact Or.inr (Or.inl ⟨_, _, _, _, rfl⟩)
  · exact Or.inr (Or.inl ⟨_, _, _, _, rfl⟩)
  · exact Or.inr (Or.inl ⟨_, _, _, _, rfl⟩)
  · exact Or.inr (Or.inl ⟨_, _, _, _, rfl⟩)
  · exact Or.inr (Or.inr (Or.inr ⟨_, _, rfl⟩))
  · exact Or.inr (Or.inr (Or.inr ⟨_, _, rfl⟩))
  · exact Or.inr (Or.inr (Or.inl ⟨_, rfl⟩))
  · exact Or.inr (Or.inr (Or.inl ⟨_, rfl⟩))
  · exact Or.inr (Or.inr (Or.inl ⟨_, rfl⟩))
  · exact Or.inr (Or.inr (Or.inl ⟨_, rfl⟩))
/-- the world: X beside the pool S, what the tables know, the nest's links -/
def WD (D : va_G) (cy : Nat → ClassId) (X : va_W) (A : Nat → Prop) (S : wPS) (U : State) : Prop := va_P D vwCl (X ++ PL cy S) U.heap ∧ va_K D vwCl (tyL cy) U ∧ va_D A (X ++ PL cy S)
theorem WD.calling {D : va_G} {cy : Nat → ClassId} {X : va_W} {A : Nat → Prop} {S : wPS} {U : State} {g : JFrame} {mk : MethodId} {a : Array Value} (h : WD D cy X A S U) : WD D cy X A S (U.calling g mk a) := ⟨h.1, va_K.moved (u := U) (U := U.calling g mk a) (Vm.Alike.refl U.vm) h.2.1, h.2.2⟩
theorem wd_pre {D : va_G} {cy : Nat → ClassId} {X : va_W} {A : Nat → Prop} {S : wPS} {s U : State} {H : Heap} (hP : va_P D vwCl (X ++ PL cy S) H) (hK : va_K D vwCl (tyL cy) s) (hD : va_D A (X ++ PL cy S)) (hU : U.heap = H) (hW : s.WarmedH U.vm) : WD D cy X (fun _ => True) S U :=
  ⟨by rw [hU]; exact hP, va_K.moved hW.alike hK, hD.weaken (fun _ _ _ _ => trivial)⟩
theorem wd_end {D : va_G} {cy : Nat → ClassId} {X : va_W} {A : Nat → Prop} {S : wPS} {s t : State} {H : Heap} (hP : va_P D vwCl (X ++ PL cy S) H) (hK : va_K D vwCl (tyL cy) s) (hD : va_D A (X ++ PL cy S)) (ht : t.heap = H) (hA : s.vm.Alike t.vm) : WD D cy X A S t :=
  ⟨by rw [ht]; exact hP, va_K.moved hA hK, hD⟩
theorem wd_post {D : va_G} {cy : Nat → ClassId} {X : va_W} {A A1 : Nat → Prop} {S : wPS} {t : State} {H1 : Heap} (hF : ∀ q, A1 q → A q) (ht : t.heap = H1) (hB : WD D cy X A1 S t) : va_P D vwCl (X ++ PL cy S) H1 ∧ va_D A (X ++ PL cy S) :=
  ⟨by rw [← ht]; exact hB.1, hB.2.2.weaken (fun _ q _ h => hF q.1 h)⟩
theorem free_all {A0 : Nat → Prop} {ws : va_W} {H0 H : Heap} {locs : List Loc} (hD : va_D A0 ws) (hS : va_S A0 H0 H locs) (hA : ∀ q, H0.size ≤ q → A0 q) : ∀ q, va_A ws H.size q → A0 q := by
  intro q h
  rcases h with ⟨k, e, h⟩ | h
  · exact hD.2 k _ h
  · exact hA q (Nat.le_trans hS.1 h)
theorem wGt {cy : Nat → ClassId} (X : va_W) (S : wPS) {a k : Nat} (hL : a ∈ S.L) (h : S.K a = k) : ∃ q : Nat, (X ++ PL cy S)[q]? = some (a, wPF cy S a) ∧ (X ++ PL cy S)[q]? = some (a, kE cy k (S.I a) (S.J a) (S.F a) (S.n a) (S.i a) (S.r a)) := by
  obtain ⟨q, hq⟩ := va_pl_get (X := X) (f := wPF cy S) hL
  refine ⟨q, hq, ?_⟩
  rw [hq]
  show some (a, kE cy (S.K a) (S.I a) (S.J a) (S.F a) (S.n a) (S.i a) (S.r a)) = _
  rw [h]
theorem wPu {cy : Nat → ClassId} {X : va_W} {S S' : wPS} {A : Nat → Prop} {a q : Nat} {e : va_E} (hD : va_D A (X ++ PL cy S)) (hL : a ∈ S.L) (hq : (X ++ PL cy S)[q]? = some (a, wPF cy S a)) (hLL : S'.L = S.L) (he : wPF cy S' a = e) (ho : ∀ b, b ≠ a → wPF cy S' b = wPF cy S b) : (X ++ PL cy S).set q (a, e) = X ++ PL cy S' := by
  rw [va_pl_set hD hL hq]
  show X ++ va_pl S.L (va_up (wPF cy S) a e) = X ++ va_pl S'.L (wPF cy S')
  rw [hLL]
  refine congrArg (fun l => X ++ l) (va_pl_congr (fun b => ?_))
  by_cases hb : b = a
  · subst hb; rw [he]; simp [va_up]
  · rw [ho b hb]; simp [va_up, hb]
theorem wPuI {cy : Nat → ClassId} {X : va_W} {S : wPS} {A : Nat → Prop} {a q k j : Nat} {v : Int32} {e : va_E} (hD : va_D A (X ++ PL cy S)) (hL : a ∈ S.L) (hk : S.K a = k) (hq : (X ++ PL cy S)[q]? = some (a, wPF cy S a)) (he : kE cy k (va_up (S.I a) j v) (S.J a) (S.F a) (S.n a) (S.i a) (S.r a) = e) : (X ++ PL cy S).set q (a, e) = X ++ PL cy (S.sI a j v) := by
  refine wPu hD hL hq rfl ?_ (fun b hb => ?_)
  · rw [← he, ← hk]; simp [wPF, wPS.sI, wPS.mk, wPS.K, wPS.I, wPS.J, wPS.F, wPS.n, wPS.i, wPS.r, va_up]
  · simp [wPF, wPS.sI, wPS.mk, wPS.K, wPS.I, wPS.J, wPS.F, wPS.n, wPS.i, wPS.r, va_up, hb]
theorem wPuJ {cy : Nat → ClassId} {X : va_W} {S : wPS} {A : Nat → Prop} {a q k j : Nat} {v : Int64} {e : va_E} (hD : va_D A (X ++ PL cy S)) (hL : a ∈ S.L) (hk : S.K a = k) (hq : (X ++ PL cy S)[q]? = some (a, wPF cy S a)) (he : kE cy k (S.I a) (va_up (S.J a) j v) (S.F a) (S.n a) (S.i a) (S.r a) = e) : (X ++ PL cy S).set q (a, e) = X ++ PL cy (S.sJ a j v) := by
  refine wPu hD hL hq rfl ?_ (fun b hb => ?_)
  · rw [← he, ← hk]; simp [wPF, wPS.sJ, wPS.mk, wPS.K, wPS.I, wPS.J, wPS.F, wPS.n, wPS.i, wPS.r, va_up]
  · simp [wPF, wPS.sJ, wPS.mk, wPS.K, wPS.I, wPS.J, wPS.F, wPS.n, wPS.i, wPS.r, va_up, hb]
theorem wPuF {cy : Nat → ClassId} {X : va_W} {S : wPS} {A : Nat → Prop} {a q k j : Nat} {v : Option Nat} {e : va_E} (hD : va_D A (X ++ PL cy S)) (hL : a ∈ S.L) (hk : S.K a = k) (hq : (X ++ PL cy S)[q]? = some (a, wPF cy S a)) (he : kE cy k (S.I a) (S.J a) (va_up (S.F a) j v) (S.n a) (S.i a) (S.r a) = e) : (X ++ PL cy S).set q (a, e) = X ++ PL cy (S.sF a j v) := by
  refine wPu hD hL hq rfl ?_ (fun b hb => ?_)
  · rw [← he, ← hk]; simp [wPF, wPS.sF, wPS.mk, wPS.K, wPS.I, wPS.J, wPS.F, wPS.n, wPS.i, wPS.r, va_up]
  · simp [wPF, wPS.sF, wPS.mk, wPS.K, wPS.I, wPS.J, wPS.F, wPS.n, wPS.i, wPS.r, va_up, hb]
theorem wPui {cy : Nat → ClassId} {X : va_W} {S : wPS} {A : Nat → Prop} {a q k : Nat} {f : Nat → Int32} {e : va_E} (hD : va_D A (X ++ PL cy S)) (hL : a ∈ S.L) (hk : S.K a = k) (hq : (X ++ PL cy S)[q]? = some (a, wPF cy S a)) (he : kE cy k (S.I a) (S.J a) (S.F a) (S.n a) f (S.r a) = e) : (X ++ PL cy S).set q (a, e) = X ++ PL cy (S.si a f) := by
  refine wPu hD hL hq rfl ?_ (fun b hb => ?_)
  · rw [← he, ← hk]; simp [wPF, wPS.si, wPS.mk, wPS.K, wPS.I, wPS.J, wPS.F, wPS.n, wPS.i, wPS.r, va_up]
  · simp [wPF, wPS.si, wPS.mk, wPS.K, wPS.I, wPS.J, wPS.F, wPS.n, wPS.i, wPS.r, va_up, hb]
theorem wPur {cy : Nat → ClassId} {X : va_W} {S : wPS} {A : Nat → Prop} {a q k : Nat} {f : Nat → Option Nat} {e : va_E} (hD : va_D A (X ++ PL cy S)) (hL : a ∈ S.L) (hk : S.K a = k) (hq : (X ++ PL cy S)[q]? = some (a, wPF cy S a)) (he : kE cy k (S.I a) (S.J a) (S.F a) (S.n a) (S.i a) f = e) : (X ++ PL cy S).set q (a, e) = X ++ PL cy (S.sr a f) := by
  refine wPu hD hL hq rfl ?_ (fun b hb => ?_)
  · rw [← he, ← hk]; simp [wPF, wPS.sr, wPS.mk, wPS.K, wPS.I, wPS.J, wPS.F, wPS.n, wPS.i, wPS.r, va_up]
  · simp [wPF, wPS.sr, wPS.mk, wPS.K, wPS.I, wPS.J, wPS.F, wPS.n, wPS.i, wPS.r, va_up, hb]
/-- behind a throw: the heap has grown, nothing of it has changed -/
theorem wd_exc {D : va_G} {cy : Nat → ClassId} {X : va_W} {A : Nat → Prop} {S : wPS} {s t : State} {H : Heap} (hP : va_P D vwCl (X ++ PL cy S) H) (hK : va_K D vwCl (tyL cy) s) (hD : va_D A (X ++ PL cy S)) (hA : s.vm.Alike t.vm) (h2 : ∀ q : Nat, q < H.size → t.heap[q]? = H[q]?) : WD D cy X A S t :=
  ⟨fun k q h => (hP k q h).kept (h2 q.1 (hP k q h).lt), va_K.moved hA hK, hD⟩
theorem exc_F {A : Nat → Prop} {s t : State} {H : Heap} {locs : List Loc} (hS : va_S A s.heap H locs) (h1 : H.size ≤ t.heap.size) (h2 : ∀ q : Nat, q < H.size → t.heap[q]? = H[q]?) : va_F A s t :=
  ⟨Nat.le_trans hS.1 h1, fun q hq ha => (h2 q (Nat.lt_of_lt_of_le hq hS.1)).trans (hS.2.1 q hq ha)⟩
/-- a new thing joins the pool -/
theorem wNw {cy : Nat → ClassId} {X : va_W} {S : wPS} {a k z : Nat} {f : Nat → Int32} {g : Nat → Option Nat} {e : va_E} (ha : a ∉ S.L) (he : kE cy k (fun _ => 0) (fun _ => 0) (fun _ => none) z f g = e) : (X ++ PL cy S) ++ [(a, e)] = X ++ PL cy (S.nw a k z f g) := by
  rw [List.append_assoc, va_pl_push ha]
  refine congrArg (fun l => X ++ l) (va_pl_congr (fun b => ?_))
  by_cases hb : b = a
  · subst hb; rw [← he]; simp [wPF, wPS.nw, wPS.mk, wPS.K, wPS.I, wPS.J, wPS.F, wPS.n, wPS.i, wPS.r, va_up]
  · simp [wPF, wPS.nw, wPS.mk, wPS.K, wPS.I, wPS.J, wPS.F, wPS.n, wPS.i, wPS.r, va_up, hb]
/-! WHAT A THROW NEEDS -/
def exW_X9_IAE : List Cond := (vx_atS RX9 114 "java/lang/IllegalArgumentException" ["java/lang/RuntimeException", "java/lang/Exception"]).filter (fun w => !goodWord w)
theorem exW_X9_IAE_ok : ∀ w ∈ vx_atS RX9 114 "java/lang/IllegalArgumentException" ["java/lang/RuntimeException", "java/lang/Exception"], vx_ot w = true := by decide +kernel
def exW_X9_NSEE : List Cond := (vx_atI RX9 154 "java/util/NoSuchElementException" ["java/lang/RuntimeException", "java/lang/Exception"]).filter (fun w => !goodWord w)
theorem exW_X9_NSEE_ok : ∀ w ∈ vx_atI RX9 154 "java/util/NoSuchElementException" ["java/lang/RuntimeException", "java/lang/Exception"], vx_ot w = true := by decide +kernel
def exW_X9_IOOBE : List Cond := (vx_atS RX9 297 "java/lang/IndexOutOfBoundsException" ["java/lang/RuntimeException", "java/lang/Exception"]).filter (fun w => !goodWord w)
theorem exW_X9_IOOBE_ok : ∀ w ∈ vx_atS RX9 297 "java/lang/IndexOutOfBoundsException" ["java/lang/RuntimeException", "java/lang/Exception"], vx_ot w = true := by decide +kernel
def exW_X9_UOE : List Cond := (vx_atS RX9 533 "java/lang/UnsupportedOperationException" ["java/lang/RuntimeException", "java/lang/Exception"]).filter (fun w => !goodWord w)
theorem exW_X9_UOE_ok : ∀ w ∈ vx_atS RX9 533 "java/lang/UnsupportedOperationException" ["java/lang/RuntimeException", "java/lang/Exception"], vx_ot w = true := by decide +kernel
def exW_X9_AE : List Cond := (vx_atS RX9 543 "java/lang/ArithmeticException" ["java/lang/RuntimeException", "java/lang/Exception"]).filter (fun w => !goodWord w)
theorem exW_X9_AE_ok : ∀ w ∈ vx_atS RX9 543 "java/lang/ArithmeticException" ["java/lang/RuntimeException", "java/lang/Exception"], vx_ot w = true := by decide +kernel
def exW_X9_ISE : List Cond := (vx_atS RX9 71 "java/lang/IllegalStateException" ["java/lang/RuntimeException", "java/lang/Exception"]).filter (fun w => !goodWord w)
theorem exW_X9_ISE_ok : ∀ w ∈ vx_atS RX9 71 "java/lang/IllegalStateException" ["java/lang/RuntimeException", "java/lang/Exception"], vx_ot w = true := by decide +kernel
def exW : List Cond := exW_X9_IAE ++ exW_X9_NSEE ++ exW_X9_IOOBE ++ exW_X9_UOE ++ exW_X9_AE ++ exW_X9_ISE
def EW (U : State) : Prop := ∀ w ∈ exW, w.before #[] U = true
def strW : List (String × Nat × String) := [("Hobhouse", 112, "both gears are the same"), ("Hobhouse", 152, "there are no such shifts"), ("Hobhouse", 230, "the box has 16 wheels"), ("Hobhouse", 252, "there are 8 hobs"), ("Hobhouse", 295, "there is no such place"), ("Hobhouse", 354, "there is no such period"), ("Hobhouse", 391, "the teeth are the same"), ("Hobhouse", 409, "there are not so many pairs"), ("Hobhouse", 417, "the gear is in no set"), ("Hobhouse", 429, "there are 6 machines"), ("Hobhouse", 434, "there is no such machine"), ("Hobhouse", 448, "the route has 8 kinds"), ("Hobhouse", 472, "there is no machine for a kind"), ("Hobhouse", 497, "no gear is meant"), ("Hobhouse", 521, "there is no such gear"), ("Hobhouse", 523, "there is no such hob"), ("Hobhouse", 525, "a number is out of range"), ("Hobhouse", 527, "there is no such kind"), ("Hobhouse", 531, "this cannot be done"), ("Hobhouse", 537, "the box has fewer than 4 wheels"), ("Hobhouse", 541, "there are no gears"), ("Hobhouse", 69, "there are 20 gears")]
def ST (U : State) : Prop := ∀ q ∈ strW, ∃ sa : Nat, vk_R q.1 q.2.1 q.2.2 sa U
def ZZ (A : Nat → Prop) (U : State) (H : Heap) : Prop := vx_Zq Bundle.tN "UNASSIGNED_STACK" Bundle.steD A U H ∧ vx_Zq Bundle.tN "SUPPRESSED_SENTINEL" Bundle.listD A U H
def TH (A : Nat → Prop) (U : State) : Prop := ZZ A U U.heap ∧ EW U ∧ ST U
theorem ZZ.next {A A1 : Nat → Prop} {s U : State} {H : Heap} {locs : List Loc} (h : ZZ A s s.heap) (hS : va_S A s.heap H locs) (hF : ∀ q, A1 q → A q) (hU : U.heap = H) (hA : s.vm.Alike U.vm) : ZZ A1 U U.heap := by
  rw [hU]
  exact ⟨((h.1.kept hS.2.1).moved hA).narrow hF, ((h.2.kept hS.2.1).moved hA).narrow hF⟩
theorem ST.warm {s U : State} (hW : s.WarmedH U.vm) (h : ST s) : ST U := fun q hq => (h q hq).elim (fun sa x => ⟨sa, vk_R.warm hW x⟩)
theorem ST.same {u U : State} (hv : U.vm = u.vm) (h : ST u) : ST U := fun q hq => (h q hq).elim (fun sa x => ⟨sa, vk_R.same hv x⟩)
def exWk (w : Cond) : Bool := (match w with | .castable .. => true | .declares _ => true | _ => false)
theorem exW_ok : ∀ w ∈ exW, exWk w = true := by decide +kernel
theorem EW.warm {s U : State} (hW : s.WarmedH U.vm) (h : EW s) : EW U := by
  intro w hw
  have h1 := exW_ok w hw
  have h2 : va_Nw w s := h w hw
  cases w <;> first | exact va_Nw.warmC hW h2 | exact va_Nw.warmD hW h2 | (simp [exWk] at h1; done)
theorem EW.same {u U : State} (hv : u.vm = U.vm) (h : EW u) : EW U := by
  intro w hw
  have h1 := exW_ok w hw
  have h2 : va_Nw w u := h w hw
  cases w <;> first | exact va_Nw.same rfl hv h2 | (simp [exWk] at h1; done)
theorem TH.calling {A : Nat → Prop} {U : State} {g : JFrame} {mk : MethodId} {a : Array Value} (h : TH A U) : TH A (U.calling g mk a) :=
  ⟨⟨vx_Zq.moved (u := U) (U := U.calling g mk a) (Vm.Alike.refl U.vm) h.1.1, vx_Zq.moved (u := U) (U := U.calling g mk a) (Vm.Alike.refl U.vm) h.1.2⟩, EW.same (u := U) (U := U.calling g mk a) rfl h.2.1, ST.same (u := U) (U := U.calling g mk a) rfl h.2.2⟩
theorem th_pre {A A1 : Nat → Prop} {s U : State} {H : Heap} {locs : List Loc} (hT : TH A s) (hS : va_S A s.heap H locs) (hF : ∀ q, A1 q → A q) (hU : U.heap = H) (hW : s.WarmedH U.vm) : TH A1 U := ⟨hT.1.next hS hF hU hW.alike, hT.2.1.warm hW, hT.2.2.warm hW⟩
theorem th_at {L B : List Cond} {args : Array Value} {s : State} (h1 : ∀ w ∈ L.filter goodWord, w.before args s = true) (hB : L.filter (fun w => !goodWord w) = B) (hin : ∀ w ∈ B, w ∈ exW) (hE : EW s) : ∀ w ∈ L, w.before args s = true :=
  vx_hat h1 (fun w h => by rw [hB] at h; exact h) (fun w h => by
    have h2 := exW_ok w (hin w h)
    have h3 : va_Nw w s := hE w (hin w h)
    cases w <;> first | exact va_Nw.use rfl h3 | (simp [exWk] at h2; done))
def eB {α β : Type} (x : Except String α) (k : α → Except String β) : Except String β := match x with | .error e => .error e | .ok a => k a
theorem eB_ok {α β : Type} {x : Except String α} {k : α → Except String β} {a : α} (h : x = .ok a) : eB x k = k a := by rw [h]; rfl
theorem eB_er {α β : Type} {x : Except String α} {k : α → Except String β} {e : String} (h : x = .error e) : eB x k = .error e := by rw [h]; rfl
