theorem t_m1 (x : Int32) : (x + (-1)).toInt = (x.toInt - 1).bmod (2 ^ 32) := by
  rw [Int32.toInt_add]; rfl
theorem t_p1 (x : Int32) : (x + 1).toInt = (x.toInt + 1).bmod (2 ^ 32) := by
  rw [Int32.toInt_add]; rfl
theorem t_rng (x : Int32) : -2147483648 ≤ x.toInt ∧ x.toInt < 2147483648 := ⟨Int32.le_toInt x, Int32.toInt_lt x⟩
theorem dn_lt {x : Int32} (h : ¬ x < 0) : ((x + (-1)).toInt + 1).toNat < (x.toInt + 1).toNat := by
  have h1 : ¬ x.toInt < (0 : Int32).toInt := fun q => h (Int32.lt_iff_toInt_lt.mpr q)
  have h2 := t_rng x
  have h0 : (0 : Int32).toInt = 0 := rfl
  rw [h0] at h1
  rw [t_m1, Int.bmod_def]
  split <;> omega
theorem up_lt {x y : Int32} (h : ¬ y ≤ x) : (y.toInt - (x + 1).toInt).toNat < (y.toInt - x.toInt).toNat := by
  have h1 : ¬ y.toInt ≤ x.toInt := fun q => h (Int32.le_iff_toInt_le.mpr q)
  have h2 := t_rng x
  have h3 := t_rng y
  rw [t_p1, Int.bmod_def]
  split <;> omega
theorem up_in {x y : Int32} (h : ¬ y ≤ x) (h0 : 0 ≤ x) : 0 ≤ x + 1 := by
  have h1 : ¬ y.toInt ≤ x.toInt := fun q => h (Int32.le_iff_toInt_le.mpr q)
  have h2 : (0 : Int32).toInt ≤ x.toInt := Int32.le_iff_toInt_le.mp h0
  have h4 : (0 : Int32).toInt = 0 := rfl
  have h3 := t_rng x
  have h5 := t_rng y
  rw [h4] at h2
  refine Int32.le_iff_toInt_le.mpr ?_
  rw [t_p1, h4, Int.bmod_def]
  split <;> omega
theorem in_len {x : Int32} {n : Nat} (h : ¬ nI n ≤ x) (h0 : 0 ≤ x) (hn : n < 2 ^ 31) : vp_in x n := by
  rw [vp_in_iff]
  have h1 : ¬ (nI n).toInt ≤ x.toInt := fun q => h (Int32.le_iff_toInt_le.mpr q)
  have h2 : (0 : Int32).toInt ≤ x.toInt := Int32.le_iff_toInt_le.mp h0
  have h4 : (0 : Int32).toInt = 0 := rfl
  rw [nI_toInt hn] at h1
  rw [h4] at h2
  omega
def l1 {α ρ : Type} (x : α) (k : α → ρ) : ρ := k x
theorem l1_eq {α ρ : Type} {x a : α} {k : α → ρ} (h : x = a) : l1 x k = k a := by rw [h]; rfl
def l2 {α β ρ : Type} (x : α × β) (k : α → β → ρ) : ρ := k x.1 x.2
theorem l2_eq {α β ρ : Type} {x : α × β} {a : α} {b : β} {k : α → β → ρ} (h : x = (a, b)) : l2 x k = k a b := by rw [h]; rfl
def l3 {α β γ ρ : Type} (x : α × β × γ) (k : α → β → γ → ρ) : ρ := k x.1 x.2.1 x.2.2
theorem l3_eq {α β γ ρ : Type} {x : α × β × γ} {a : α} {b : β} {c : γ} {k : α → β → γ → ρ} (h : x = (a, b, c)) : l3 x k = k a b c := by rw [h]; rfl
def l4 {α β γ δ ρ : Type} (x : α × β × γ × δ) (k : α → β → γ → δ → ρ) : ρ := k x.1 x.2.1 x.2.2.1 x.2.2.2
theorem l4_eq {α β γ δ ρ : Type} {x : α × β × γ × δ} {a : α} {b : β} {c : γ} {d : δ} {k : α → β → γ → δ → ρ} (h : x = (a, b, c, d)) : l4 x k = k a b c d := by rw [h]; rfl
def l5 {α β γ δ ε ρ : Type} (x : α × β × γ × δ × ε) (k : α → β → γ → δ → ε → ρ) : ρ := k x.1 x.2.1 x.2.2.1 x.2.2.2.1 x.2.2.2.2
theorem l5_eq {α β γ δ ε ρ : Type} {x : α × β × γ × δ × ε} {a : α} {b : β} {c : γ} {d : δ} {e : ε} {k : α → β → γ → δ → ε → ρ} (h : x = (a, b, c, d, e)) : l5 x k = k a b c d e := by rw [h]; rfl
theorem pos_of {x : Int32} (h : ¬ x < 1) : 0 < x := by
  refine Int32.lt_iff_toInt_lt.mpr ?_
  have h1 : ¬ x.toInt < (1 : Int32).toInt := fun q => h (Int32.lt_iff_toInt_lt.mpr q)
  have h4 : (0 : Int32).toInt = 0 := rfl
  have h5 : (1 : Int32).toInt = 1 := rfl
  rw [h5] at h1; rw [h4]; omega
theorem t_add {x y : Int32} (h : -2147483648 ≤ x.toInt + y.toInt ∧ x.toInt + y.toInt < 2147483648) : (x + y).toInt = x.toInt + y.toInt := by
  rw [Int32.toInt_add, Int.bmod_def]
  split <;> omega
theorem t_le {x : Int32} {n : Int} (v : Int32) (hv : v.toInt = n) : x ≤ v ↔ x.toInt ≤ n := by rw [Int32.le_iff_toInt_le, hv]
theorem by_facts {x p : Int32} {n : Nat} (h : ¬ nI n ≤ x) (h0 : 0 ≤ x) (hp : 0 < p) (hp2 : p ≤ 1000000) (hn : n ≤ 1000000) : (x + p).toInt = x.toInt + p.toInt ∧ 0 ≤ x.toInt ∧ x.toInt < n ∧ 0 < p.toInt ∧ (nI n).toInt = n := by
  have e : (nI n).toInt = n := nI_toInt (by omega)
  have h1 : ¬ (nI n).toInt ≤ x.toInt := fun q => h (Int32.le_iff_toInt_le.mpr q)
  have h2 : (0 : Int32).toInt ≤ x.toInt := Int32.le_iff_toInt_le.mp h0
  have h3 : (0 : Int32).toInt < p.toInt := Int32.lt_iff_toInt_lt.mp hp
  have h4 : (0 : Int32).toInt = 0 := rfl
  have h5 : p.toInt ≤ 1000000 := (t_le 1000000 rfl).mp hp2
  rw [e] at h1
  rw [h4] at h2 h3
  exact ⟨t_add (by omega), h2, by omega, h3, e⟩
theorem by_lt {x p : Int32} {n : Nat} (h : ¬ nI n ≤ x) (h0 : 0 ≤ x) (hp : 0 < p) (hp2 : p ≤ 1000000) (hn : n ≤ 1000000) : ((nI n).toInt - (x + p).toInt).toNat < ((nI n).toInt - x.toInt).toNat := by
  obtain ⟨a, b, c, d, e⟩ := by_facts h h0 hp hp2 hn
  rw [a, e]; omega
theorem by_in {x p : Int32} {n : Nat} (h : ¬ nI n ≤ x) (h0 : 0 ≤ x) (hp : 0 < p) (hp2 : p ≤ 1000000) (hn : n ≤ 1000000) : 0 ≤ x + p := by
  obtain ⟨a, b, c, d, e⟩ := by_facts h h0 hp hp2 hn
  refine Int32.le_iff_toInt_le.mpr ?_
  have h4 : (0 : Int32).toInt = 0 := rfl
  rw [a, h4]; omega
theorem fuel_len {x : Int32} {n : Nat} (hn : n ≤ 1000000) (h0 : 0 ≤ x) : ((nI n).toInt - x.toInt).toNat < 1000001 := by
  have e : (nI n).toInt = n := nI_toInt (by omega)
  have h2 : (0 : Int32).toInt ≤ x.toInt := Int32.le_iff_toInt_le.mp h0
  have h4 : (0 : Int32).toInt = 0 := rfl
  rw [h4] at h2
  rw [e]; omega
theorem fuel_p {x : Int32} (h : x ≤ 1000000) : (x.toInt - (1 : Int32).toInt).toNat < 1000001 := by
  have h5 : x.toInt ≤ 1000000 := (t_le 1000000 rfl).mp h
  have h4 : (1 : Int32).toInt = 1 := rfl
  rw [h4]; omega
theorem ne_of {x : Int32} (h : ¬ x < 1) : ¬ x = 0 := fun e => h (by rw [e]; decide)
theorem ne64 {x : Int32} (h : ¬ x = 0) : ¬ x.toInt64 = 0 := fun e => h (by
  have h1 : x.toInt64.toInt = (0 : Int64).toInt := by rw [e]
  rw [Int32.toInt_toInt64] at h1
  exact Int32.toInt_inj.mp h1)
theorem ne_len {x : Int32} {n : Nat} (h : ¬ nI n ≤ x) (h0 : 0 ≤ x) : ¬ (nI n).toInt64 = 0 := ne64 (fun e => h (by rw [e]; exact h0))
theorem in_len2 {x : Int32} {n : Nat} (h : x < nI n) (h0 : ¬ x < 0) (hn : n < 2 ^ 31) : vp_in x n := by
  refine in_len (fun q => ?_) ?_ hn
  · have h1 := Int32.lt_iff_toInt_lt.mp h
    have h2 := Int32.le_iff_toInt_le.mp q
    omega
  · refine Int32.le_iff_toInt_le.mpr ?_
    have h1 : ¬ x.toInt < (0 : Int32).toInt := fun q => h0 (Int32.lt_iff_toInt_lt.mpr q)
    omega
theorem z_le {x : Int32} (h : 0 ≤ x) : 0 ≤ x.toInt := by
  have h2 := Int32.le_iff_toInt_le.mp h
  have h4 : (0 : Int32).toInt = 0 := rfl
  rw [h4] at h2; exact h2
theorem z_nle {x : Int32} (h : ¬ x ≤ 0) : 0 < x.toInt := by
  have h2 : ¬ x.toInt ≤ (0 : Int32).toInt := fun q => h (Int32.le_iff_toInt_le.mpr q)
  have h4 : (0 : Int32).toInt = 0 := rfl
  rw [h4] at h2; omega
theorem z_nlt {x : Int32} (h : ¬ x < 0) : 0 ≤ x.toInt := by
  have h2 : ¬ x.toInt < (0 : Int32).toInt := fun q => h (Int32.lt_iff_toInt_lt.mpr q)
  have h4 : (0 : Int32).toInt = 0 := rfl
  rw [h4] at h2; omega
theorem t_sub1 {x : Int32} (h : ¬ x ≤ 0) : (x - 1).toInt = x.toInt - 1 := by
  have h1 := z_nle h
  have h2 := t_rng x
  have h5 : (1 : Int32).toInt = 1 := rfl
  rw [Int32.toInt_sub, h5, Int.bmod_def]
  split <;> omega
theorem t_dec {x : Int32} (h : ¬ x ≤ 0) : (x + (-1)).toInt = x.toInt - 1 := by
  have h1 := z_nle h
  have h2 := t_rng x
  rw [t_m1, Int.bmod_def]
  split <;> omega
theorem in_of {x : Int32} {n : Nat} (h : 0 ≤ x.toInt) (h2 : x.toInt < n) : vp_in x n := (vp_in_iff).mpr ⟨h, h2⟩
theorem nlt_of {x y : Int32} (h : ¬ y ≤ x) : x.toInt < y.toInt := by
  have h2 : ¬ y.toInt ≤ x.toInt := fun q => h (Int32.le_iff_toInt_le.mpr q)
  omega
theorem le_of_nlt {x : Int32} (h : ¬ x < 0) : 0 ≤ x := by
  refine Int32.le_iff_toInt_le.mpr ?_
  have := z_nlt h
  have h4 : (0 : Int32).toInt = 0 := rfl
  rw [h4]; exact this
theorem ne_le0 {x : Int32} (h : ¬ x ≤ 0) : ¬ x = 0 := fun e => h (by rw [e]; decide)
theorem ne_cmp {x : Int64} (h : ¬ lg_cmp x 0 ≤ 0) : ¬ x = 0 := fun e => h (by rw [e]; decide)
theorem up_le {x y : Int32} (h : ¬ y < x) (hy : y.toInt ≤ 1000000) : (y.toInt + 1 - (x + 1).toInt).toNat < (y.toInt + 1 - x.toInt).toNat := by
  have h1 : ¬ y.toInt < x.toInt := fun q => h (Int32.lt_iff_toInt_lt.mpr q)
  have h2 := t_rng x
  have h3 := t_rng y
  rw [t_p1, Int.bmod_def]
  split <;> omega
theorem st_le {x y : Int32} (k : Int32) {n : Int} (hk : k.toInt = n) (hn : 0 < n ∧ n ≤ 1000000) (h : ¬ y < x) (hy : y.toInt ≤ 1000000) : (y.toInt + n - (x + k).toInt).toNat < (y.toInt + n - x.toInt).toNat := by
  have h1 : ¬ y.toInt < x.toInt := fun q => h (Int32.lt_iff_toInt_lt.mpr q)
  have h2 := t_rng x
  have h3 := t_rng y
  rw [t_add (by omega), hk]
  omega
theorem le_c {x : Int32} {n : Int} (v : Int32) (hv : v.toInt = n) (h : x ≤ v) : x.toInt ≤ n := (t_le v hv).mp h
theorem t_inc {x : Int32} (h : x.toInt < 2147483647) : (x + 1).toInt = x.toInt + 1 := by
  have h2 := t_rng x
  rw [t_p1, Int.bmod_def]
  split <;> omega
theorem ne_gt {x : Int64} (h : 0 < lg_cmp x 0) : ¬ x = 0 := fun e => absurd h (by rw [e]; decide)
theorem cl_of {x : Int32} (h : ¬ x < 0) : (x.toNatClampNeg : Int) = x.toInt := by
  have h1 := z_nlt h
  have h2 : x.toNatClampNeg = x.toInt.toNat := rfl
  rw [h2]; omega
theorem lt_of32 {x y : Int32} (h : x < y) : x.toInt < y.toInt := Int32.lt_iff_toInt_lt.mp h
theorem nlt_of_le {x : Int32} (h : 0 ≤ x) : ¬ x < 0 := fun q => by
  have h1 := Int32.lt_iff_toInt_lt.mp q
  have h2 := Int32.le_iff_toInt_le.mp h
  omega

theorem lt_i {x y : Int32} (h : x < y) : x.toInt < y.toInt := Int32.lt_iff_toInt_lt.mp h
theorem nlt_i {x y : Int32} (h : ¬ x < y) : y.toInt ≤ x.toInt := by
  have h2 : ¬ x.toInt < y.toInt := fun q => h (Int32.lt_iff_toInt_lt.mpr q)
  omega
theorem le_i {x y : Int32} (h : x ≤ y) : x.toInt ≤ y.toInt := Int32.le_iff_toInt_le.mp h
theorem nle_i {x y : Int32} (h : ¬ x ≤ y) : y.toInt < x.toInt := by
  have h2 : ¬ x.toInt ≤ y.toInt := fun q => h (Int32.le_iff_toInt_le.mpr q)
  omega
theorem eq_i {x y : Int32} (h : x = y) : x.toInt = y.toInt := by rw [h]
theorem neq_i {x y : Int32} (h : ¬ x = y) : ¬ x.toInt = y.toInt := fun e => h (Int32.toInt_inj.mp e)
theorem t_sub {x y : Int32} (h : -2147483648 ≤ x.toInt - y.toInt ∧ x.toInt - y.toInt < 2147483648) : (x - y).toInt = x.toInt - y.toInt := by
  rw [Int32.toInt_sub, Int.bmod_def]
  split <;> omega
theorem t_mulx {x y : Int32} (h : -2147483648 ≤ x.toInt * y.toInt ∧ x.toInt * y.toInt < 2147483648) : (x * y).toInt = x.toInt * y.toInt := by
  rw [Int32.toInt_mul]
  exact Int.bmod_eq_of_le (by omega) (by omega)
theorem t_mulr {x y : Int32} {n : Int} (hy : y.toInt = n) (h : -2147483648 ≤ x.toInt * n ∧ x.toInt * n < 2147483648) : (x * y).toInt = x.toInt * n := by
  rw [t_mulx (by rw [hy]; exact h), hy]
theorem t_mull {x y : Int32} {n : Int} (hy : x.toInt = n) (h : -2147483648 ≤ n * y.toInt ∧ n * y.toInt < 2147483648) : (x * y).toInt = n * y.toInt := by
  rw [t_mulx (by rw [hy]; exact h), hy]
theorem t_divx {x y : Int32} (h0 : 0 ≤ x.toInt) (h1 : 0 < y.toInt) : (x / y).toInt = x.toInt / y.toInt := by
  have hx := t_rng x
  rw [Int32.toInt_div, Int.tdiv_eq_ediv_of_nonneg h0]
  have h2 : x.toInt / y.toInt ≤ x.toInt := Int.ediv_le_self _ h0
  have h3 : 0 ≤ x.toInt / y.toInt := Int.ediv_nonneg h0 (by omega)
  exact Int.bmod_eq_of_le (by omega) (by omega)
theorem t_divl {x y : Int32} {n : Int} (hy : y.toInt = n) (h0 : 0 ≤ x.toInt) (h1 : 0 < n) : (x / y).toInt = x.toInt / n := by
  rw [t_divx h0 (by rw [hy]; exact h1), hy]
theorem rem_rng {x y : Int32} (h0 : 0 ≤ x.toInt) (h1 : 0 < y.toInt) : 0 ≤ (x - x / y * y).toInt ∧ (x - x / y * y).toInt < y.toInt ∧ (x - x / y * y).toInt = x.toInt % y.toInt := by
  have e1 := t_divx h0 h1
  have hx := t_rng x
  have h2 : x.toInt / y.toInt * y.toInt ≤ x.toInt := Int.ediv_mul_le _ (by omega)
  have h3 : 0 ≤ x.toInt / y.toInt * y.toInt := Int.mul_nonneg (Int.ediv_nonneg h0 (by omega)) (by omega)
  have e2 : (x / y * y).toInt = x.toInt / y.toInt * y.toInt := by rw [t_mulx (by rw [e1]; omega), e1]
  have e3 : (x - x / y * y).toInt = x.toInt % y.toInt := by
    rw [t_sub (by rw [e2]; omega), e2]
    have := Int.emod_def x.toInt y.toInt
    rw [Int.mul_comm] at this
    omega
  rw [e3]
  exact ⟨Int.emod_nonneg _ (by omega), Int.emod_lt_of_pos _ h1, rfl⟩
theorem inb {i : Int32} {n m : Nat} (e : n = m) (h0 : 0 ≤ i.toInt) (h1 : i.toInt < m) : vp_in i n := by subst e; exact (vp_in_iff).mpr ⟨h0, h1⟩
theorem cl_int {i : Int32} (h : 0 ≤ i.toInt) : (i.toNatClampNeg : Int) = i.toInt := by
  have h2 : i.toNatClampNeg = i.toInt.toNat := rfl
  rw [h2]; omega
theorem clamp_le {i : Int32} {n : Nat} (h0 : 0 ≤ i.toInt) (h1 : i.toInt ≤ n) : i.toNatClampNeg ≤ n := by
  have := cl_int h0; omega
theorem nneg_i {x : Int32} (h : 0 ≤ x.toInt) : ¬ x < 0 := fun q => by
  have h1 := Int32.lt_iff_toInt_lt.mp q
  have h4 : (0 : Int32).toInt = 0 := rfl
  omega
theorem nz_i {x : Int32} (h : ¬ x.toInt = 0) : ¬ x = 0 := fun e => h (by rw [e]; rfl)
theorem nz_l {x : Int32} (h : ¬ x.toInt = 0) : ¬ x.toInt64 = 0 := ne64 (nz_i h)
theorem nar_z {x : Int32} (h : x.toInt = 0 ∨ x.toInt = 1) : narrow .boolean (.int x) = .int x := by
  rcases h with h | h
  · have e : x = 0 := Int32.toInt_inj.mp h
    subst e; rfl
  · have e : x = 1 := Int32.toInt_inj.mp h
    subst e; rfl
theorem not0 (i : Nat) : ¬ ((i : Int) < (0 : Int32).toInt) := by
  have h4 : (0 : Int32).toInt = 0 := rfl
  rw [h4]; omega
theorem el_in {E : String} {L M : List String} (h : ∀ x ∈ L, x ∈ M) (g : E ∈ L) : E ∈ M := h E g
theorem mmax_i (x y : Int32) : x.toInt ≤ (if x < y then y else x).toInt ∧ y.toInt ≤ (if x < y then y else x).toInt ∧ ((if x < y then y else x).toInt = x.toInt ∨ (if x < y then y else x).toInt = y.toInt) := by
  split
  · rename_i h; have := lt_i h; omega
  · rename_i h; have := nlt_i h; omega
theorem mmin_i (x y : Int32) : (if y < x then y else x).toInt ≤ x.toInt ∧ (if y < x then y else x).toInt ≤ y.toInt ∧ ((if y < x then y else x).toInt = x.toInt ∨ (if y < x then y else x).toInt = y.toInt) := by
  split
  · rename_i h; have := lt_i h; omega
  · rename_i h; have := nlt_i h; omega
theorem t_addr {x y : Int32} {n : Int} (hy : y.toInt = n) (h : -2147483648 ≤ x.toInt + n ∧ x.toInt + n < 2147483648) : (x + y).toInt = x.toInt + n := by
  rw [t_add (by rw [hy]; exact h), hy]
theorem t_subr {x y : Int32} {n : Int} (hy : y.toInt = n) (h : -2147483648 ≤ x.toInt - n ∧ x.toInt - n < 2147483648) : (x - y).toInt = x.toInt - n := by
  rw [t_sub (by rw [hy]; exact h), hy]
theorem lt_v {x y : Int32} {a b : Int} (hx : x.toInt = a) (hy : y.toInt = b) (h : x < y) : a < b := by rw [← hx, ← hy]; exact lt_i h
theorem nlt_v {x y : Int32} {a b : Int} (hx : x.toInt = a) (hy : y.toInt = b) (h : ¬ x < y) : b ≤ a := by rw [← hx, ← hy]; exact nlt_i h
theorem le_v {x y : Int32} {a b : Int} (hx : x.toInt = a) (hy : y.toInt = b) (h : x ≤ y) : a ≤ b := by rw [← hx, ← hy]; exact le_i h
theorem nle_v {x y : Int32} {a b : Int} (hx : x.toInt = a) (hy : y.toInt = b) (h : ¬ x ≤ y) : b < a := by rw [← hx, ← hy]; exact nle_i h
theorem eq_v {x y : Int32} {a b : Int} (hx : x.toInt = a) (hy : y.toInt = b) (h : x = y) : a = b := by rw [← hx, ← hy]; exact eq_i h
theorem neq_v {x y : Int32} {a b : Int} (hx : x.toInt = a) (hy : y.toInt = b) (h : ¬ x = y) : ¬ a = b := by rw [← hx, ← hy]; exact neq_i h

/-! STATICS: what lies outside the pool and is never written -/
def gradesF : Nat → Int32 := fun j => ([2, 3, 4, 6, 8, 11, 16, 22, 32, 45, 64, 90, 128] : List Int32).getD j 0
def sinesF : Nat → Int32 := fun j => ([866, 707, 588, 500] : List Int32).getD j 0
/-- an empty row of objects -/
def EX (b : Nat) (U : State) (H : Heap) : Prop := ∃ scr : Cell, H[b]? = some scr ∧ U.isArrayOf scr (.object "java/lang/Object") ∧ scr.vm ≠ .unknown ∧ scr.slots.size = 0
def OS (n : String) (L : Nat) (xs : Nat → Int32) (A : Nat → Prop) (U : State) (H : Heap) : Prop := ∃ g : Nat, va_Z "Hobhouse" n "[I" (.ref g) A U H ∧ va_X g L xs U H ∧ g < H.size ∧ ¬ A g
def OU (e mi : Nat) (A : Nat → Prop) (U : State) (H : Heap) : Prop := OS "GRADES" 13 gradesF A U H ∧ OS "SINES" 4 sinesF A U H ∧ va_Z "java/lang/String" "COMPACT_STRINGS" "Z" (.int 1) A U H ∧ va_Z "java/util/ArrayList" "DEFAULTCAPACITY_EMPTY_ELEMENTDATA" "[Ljava/lang/Object;" (.ref e) A U H ∧ EX e U H ∧ e < H.size ∧ ¬ A e ∧ va_Mi "[Ljava/lang/Object;" mi U ∧ va_Dc U ∧ ∃ f : Option Nat, va_Z "jdk/internal/util/Preconditions" "SIOOBE_FORMATTER" "Ljava/util/function/BiFunction;" (va_rf f) A U H
theorem va_X.mvd {b L : Nat} {xs : Nat → Int32} {u U : State} {H : Heap} (hvm : u.vm.Alike U.vm) (h : va_X b L xs u H) : va_X b L xs U H := by
  obtain ⟨scr, h1, h2, h3, h4, h5⟩ := h
  exact ⟨scr, h1, State.isArrayOf_alike hvm h2, h3, h4, h5⟩
theorem EX.mvd {b : Nat} {u U : State} {H : Heap} (hvm : u.vm.Alike U.vm) (h : EX b u H) : EX b U H := by
  obtain ⟨scr, h1, h2, h3, h4⟩ := h
  exact ⟨scr, h1, State.isArrayOf_alike hvm h2, h3, h4⟩
theorem OS.next {n : String} {L : Nat} {xs : Nat → Int32} {A A1 : Nat → Prop} {u U : State} {H H1 : Heap} (h : OS n L xs A u H) (hvm : u.vm.Alike U.vm) (hz : H.size ≤ H1.size) (hq : ∀ a : Nat, a < H.size → ¬ A a → H1[a]? = H[a]?) (hF : ∀ q, A1 q → A q) : OS n L xs A1 U H1 := by
  obtain ⟨g, h1, h2, h3, h4⟩ := h
  exact ⟨g, ((h1.kept hq).moved hvm).narrow hF, (h2.kept (hq g h3 h4)).mvd hvm, Nat.lt_of_lt_of_le h3 hz, fun q => h4 (hF g q)⟩
theorem OU.next {e mi : Nat} {A A1 : Nat → Prop} {u U : State} {H H1 : Heap} (h : OU e mi A u H) (hvm : u.vm.Alike U.vm) (hz : H.size ≤ H1.size) (hq : ∀ a : Nat, a < H.size → ¬ A a → H1[a]? = H[a]?) (hF : ∀ q, A1 q → A q) : OU e mi A1 U H1 := by
  obtain ⟨h1, h2, h3, h4, h5, h6, h7, hM, hDc, f, h8⟩ := h
  refine ⟨h1.next hvm hz hq hF, h2.next hvm hz hq hF, ((h3.kept hq).moved hvm).narrow hF, ((h4.kept hq).moved hvm).narrow hF, ?_, Nat.lt_of_lt_of_le h6 hz, fun q => h7 (hF e q), hM.moved hvm, hDc.moved hvm, f, ((h8.kept hq).moved hvm).narrow hF⟩
  obtain ⟨scr, a1, a2, a3, a4⟩ := h5
  exact EX.mvd hvm ⟨scr, by rw [hq e h6 h7]; exact a1, a2, a3, a4⟩
theorem OU.calling {e mi : Nat} {A : Nat → Prop} {U : State} {g : JFrame} {mk : MethodId} {a : Array Value} (h : OU e mi A U U.heap) : OU e mi A (U.calling g mk a) (U.calling g mk a).heap :=
  h.next (U := U.calling g mk a) (Vm.Alike.refl U.vm) (Nat.le_refl _) (fun _ _ _ => rfl) (fun _ q => q)
theorem ou_pre {e mi : Nat} {A A1 : Nat → Prop} {s U : State} {H : Heap} {locs : List Loc} (hO : OU e mi A s s.heap) (hS : va_S A s.heap H locs) (hF : ∀ q, A1 q → A q) (hU : U.heap = H) (hW : s.WarmedH U.vm) : OU e mi A1 U U.heap := by
  rw [hU]
  exact hO.next hW.alike hS.1 hS.2.1 hF
section VOU
variable {p : Program} {l : Launch} {e : Env} {R : Room} {s : State} {m : MethodId} {args : Array Value} {below : List Frame} {meth : Method} {c : Code} {H H0 : Heap} {locs : List Loc} {cells slots : Nat} {Q : State → Prop}
variable {cc : ByteArray} {pc : Nat} {ls : Array Slot} {rest : List Value} {A : Nat → Prop}
theorem ou_len (hexec : p.tables.exec = Jvm.exec) (hb : c.code = cc) {b : Nat} (hX : EX b s H0) (hbl : b < H0.size) (hbA : ¬ A b) (hS : va_S A H0 H locs) (hdg : decode cc pc = .ok (.arraylength, 1))
    (kk : W p l e R s m args below meth c H locs cells slots Q (F0 m (pc + 1) ls (.int 0 :: rest))) : W p l e R s m args below meth c H locs cells slots Q (F0 m pc ls (.ref b :: rest)) := by
  obtain ⟨scr, h1, h2, h3, h4⟩ := hX
  exact W.alen (n := 0) hexec hb (by rw [hS.2.1 b hbl hbA]; exact h1) h2 (by rw [h4] <;> rfl) rfl rfl hdg kk
end VOU
theorem lc_gt {x y : Int64} (h : 0 < lg_cmp x y) : y.toInt < x.toInt := Int64.lt_iff_toInt_lt.mp ((lg_cmp_gt x y).mp h)
theorem lc_ngt {x y : Int64} (h : ¬ 0 < lg_cmp x y) : x.toInt ≤ y.toInt := by
  have h2 : ¬ y < x := fun q => h ((lg_cmp_gt x y).mpr q)
  have h3 : ¬ y.toInt < x.toInt := fun q => h2 (Int64.lt_iff_toInt_lt.mpr q)
  omega
theorem lc_lt {x y : Int64} (h : lg_cmp x y < 0) : x.toInt < y.toInt := Int64.lt_iff_toInt_lt.mp ((lg_cmp_lt x y).mp h)
theorem lc_nlt {x y : Int64} (h : ¬ lg_cmp x y < 0) : y.toInt ≤ x.toInt := by
  have h2 : ¬ x < y := fun q => h ((lg_cmp_lt x y).mpr q)
  have h3 : ¬ x.toInt < y.toInt := fun q => h2 (Int64.lt_iff_toInt_lt.mpr q)
  omega
theorem lc_le {x y : Int64} (h : lg_cmp x y ≤ 0) : x.toInt ≤ y.toInt := Int64.le_iff_toInt_le.mp ((lg_cmp_le x y).mp h)
theorem lc_nle {x y : Int64} (h : ¬ lg_cmp x y ≤ 0) : y.toInt < x.toInt := by
  have h2 : ¬ x ≤ y := fun q => h ((lg_cmp_le x y).mpr q)
  have h3 : ¬ x.toInt ≤ y.toInt := fun q => h2 (Int64.le_iff_toInt_le.mpr q)
  omega
theorem lc_ge {x y : Int64} (h : 0 ≤ lg_cmp x y) : y.toInt ≤ x.toInt := Int64.le_iff_toInt_le.mp ((lg_cmp_ge x y).mp h)
theorem lc_nge {x y : Int64} (h : ¬ 0 ≤ lg_cmp x y) : x.toInt < y.toInt := by
  have h2 : ¬ y ≤ x := fun q => h ((lg_cmp_ge x y).mpr q)
  have h3 : ¬ y.toInt ≤ x.toInt := fun q => h2 (Int64.le_iff_toInt_le.mpr q)
  omega
theorem i64_i (x : Int32) : x.toInt64.toInt = x.toInt := Int32.toInt_toInt64 x
theorem nz64 {x : Int64} (h : ¬ x.toInt = 0) : ¬ x = 0 := fun e => h (by rw [e]; rfl)
theorem rem0_le {x y : Int32} (hx : 0 < x.toInt) (hy : 0 < y.toInt) (h : x - x / y * y = 0) : y.toInt ≤ x.toInt := by
  have h1 := (rem_rng (x := x) (y := y) (by omega) hy).2.2
  rw [h] at h1
  have h4 : (0 : Int32).toInt = 0 := rfl
  rw [h4] at h1
  exact Int.le_of_dvd hx (Int.dvd_of_emod_eq_zero h1.symm)
theorem sh16 {c : Int32} (h : 0 ≤ c.toInt ∧ c.toInt ≤ 0) : ((16 : Int32) >>> (c &&& 31)).toInt = 16 := by
  have e : c = 0 := Int32.toInt_inj.mp (by have h4 : (0 : Int32).toInt = 0 := rfl; rw [h4]; omega)
  subst e; decide
theorem Met.ofWP {l : Launch} {y : MethodName} {ws ws' : List Cond} {rm : Room} {Pc : Array Value → State → Prop} {Qc : Array Value → State → Outcome → State → Prop} {mc ms : Nat} {free : Addr → Prop} {cc : ByteArray} {maxL : Nat} {ret : Option FieldType}
    (hy : plainFor y = true) (hw : ws = Cond.code y cc maxL ret :: ws')
    (body : ∀ p e s m args below meth c s₁, BodyLoose p l y (headSpec ws rm) cc maxL ret e s m args below meth c s₁ → c.maxLocals = maxL → Pc args s →
      W p l e (headSpec ws rm).room s m args below meth c s.heap [] 0 0 (MQ below Qc args s mc ms free) (entryFrame m args maxL)) : Met l y ws rm Pc Qc mc ms free := by
  refine MetFree.of_bodySF (code := cc) (maxLocals := maxL) (ret := ret) hy ?_ ?_
  · intro args s m h hn
    obtain ⟨meth, c, h1, h2, h3, h4, h5, h6, -, -⟩ := Cond.code_spec hn (atoms_spec (ws := ws) h _ (by rw [hw]; exact List.mem_cons_self))
    exact ⟨meth, c, h1, h2, h3, h4, h5, h6⟩
  · intro p e s m args below meth c s₁ B hml hP _
    have hh0 : s₁.heap = s.heap := by rw [B.state]; rfl
    obtain ⟨t, a1, o, b1, b2, b3⟩ := body p e s m args below meth c s₁ B hml hP s₁ hh0 (Stand.of_body B)
    exact ⟨t, o, a1, b1, b2, ⟨b3.1, b3.2⟩⟩
theorem t64_rng (x : Int64) : -9223372036854775808 ≤ x.toInt ∧ x.toInt < 9223372036854775808 := ⟨Int64.le_toInt x, Int64.toInt_lt x⟩
theorem t64_add {x y : Int64} (h : -9223372036854775808 ≤ x.toInt + y.toInt ∧ x.toInt + y.toInt < 9223372036854775808) : (x + y).toInt = x.toInt + y.toInt := by
  rw [Int64.toInt_add]
  exact Int.bmod_eq_of_le (by omega) (by omega)
theorem t64_sub {x y : Int64} (h : -9223372036854775808 ≤ x.toInt - y.toInt ∧ x.toInt - y.toInt < 9223372036854775808) : (x - y).toInt = x.toInt - y.toInt := by
  rw [Int64.toInt_sub]
  exact Int.bmod_eq_of_le (by omega) (by omega)
theorem t64_mul {x y : Int64} (h : -9223372036854775808 ≤ x.toInt * y.toInt ∧ x.toInt * y.toInt < 9223372036854775808) : (x * y).toInt = x.toInt * y.toInt := by
  rw [Int64.toInt_mul]
  exact Int.bmod_eq_of_le (by omega) (by omega)
theorem t64_divl {x y : Int64} {n : Int} (hy : y.toInt = n) (h0 : 0 ≤ x.toInt) (h1 : 0 < n) : (x / y).toInt = x.toInt / n := by
  have hx := t64_rng x
  rw [Int64.toInt_div, Int.tdiv_eq_ediv_of_nonneg h0, hy]
  have h2 : x.toInt / n ≤ x.toInt := Int.ediv_le_self _ h0
  have h3 : 0 ≤ x.toInt / n := Int.ediv_nonneg h0 (by omega)
  exact Int.bmod_eq_of_le (by omega) (by omega)
theorem recv_arr {D : va_G} {cl : List vw_C} {tys : List (ClassId × FieldType)} {s : State} {H : Heap} {ws : va_W} {a q0 i n : Nat} {c : ClassId} {f : Nat → Option Nat} {C nm : String} (hK : va_K D cl tys s) (hP : va_P D cl ws H) (ht : tys[i]? = some (c, .object C)) (he : ws[q0]? = some (a, .inl (c, n, .inr (.inr (.inr (.inr f)))))) (e : "[" ++ (FieldType.object C).toString = nm) : ∃ cell : Cell, H[a]? = some cell ∧ cell.vm.isStatics = false ∧ s.vm.findClass nm = some cell.cls := by
  refine ⟨_, hP q0 _ he, ?_, ?_⟩
  · show (vp_cell c (n, .inr (.inr (.inr (.inr f))))).vm.isStatics = false
    rw [vp_cell_q]; rfl
  · show s.vm.findClass nm = some (vp_cell c (n, .inr (.inr (.inr (.inr f))))).cls
    rw [vp_cell_q]
    exact va_nmO (hK.2 i _ ht).2 e

/-! what a call owes of the pool, once for all calls: PreS, PreV of the pool's own premises (pS..: static or special, pV..: virtual; t: it may throw, o: it reads what stands outside) -/
theorem pS {As : List Value} {s : State} {H : Heap} {D : va_G} {cy : Nat → ClassId} {X : va_W} {A : Nat → Prop} {S : wPS} (hP : va_P D vwCl (X ++ PL cy S) H) (hK : va_K D vwCl (tyL cy) s) (hD : va_D A (X ++ PL cy S)) (hN : NW s) : PreS s H (va_Pc As (fun U => U.heap.size = H.size ∧ WD D cy X (fun _ => True) S U ∧ NW U)) As := ⟨fun a U g mk q => ⟨q.1, q.2.1, q.2.2.1.calling, NW.same (u := U) (U := U.calling g mk a) rfl q.2.2.2⟩, fun U hU hW => ⟨rfl, by rw [hU], wd_pre hP hK hD hU hW, hN.warm hW⟩⟩
theorem pSo {As : List Value} {s : State} {H : Heap} {D : va_G} {cy : Nat → ClassId} {X : va_W} {A : Nat → Prop} {S : wPS} {locs : List Loc} {e0 mi : Nat} (hP : va_P D vwCl (X ++ PL cy S) H) (hK : va_K D vwCl (tyL cy) s) (hD : va_D A (X ++ PL cy S)) (hN : NW s) (hOU : OU e0 mi A s s.heap) (hS : va_S A s.heap H locs) (hF : ∀ q, (va_A (X ++ PL cy S) H.size) q → A q) : PreS s H (va_Pc As (fun U => U.heap.size = H.size ∧ WD D cy X (fun _ => True) S U ∧ NW U ∧ OU e0 mi (va_A (X ++ PL cy S) H.size) U U.heap)) As := ⟨fun a U g mk q => ⟨q.1, q.2.1, q.2.2.1.calling, NW.same (u := U) (U := U.calling g mk a) rfl q.2.2.2.1, q.2.2.2.2.calling⟩, fun U hU hW => ⟨rfl, by rw [hU], wd_pre hP hK hD hU hW, hN.warm hW, ou_pre hOU hS hF hU hW⟩⟩
theorem pSt {As : List Value} {s : State} {H : Heap} {D : va_G} {cy : Nat → ClassId} {X : va_W} {A : Nat → Prop} {S : wPS} {locs : List Loc} (hP : va_P D vwCl (X ++ PL cy S) H) (hK : va_K D vwCl (tyL cy) s) (hD : va_D A (X ++ PL cy S)) (hN : NW s) (hTH : TH A s) (hS : va_S A s.heap H locs) (hF : ∀ q, (va_A (X ++ PL cy S) H.size) q → A q) : PreS s H (va_Pc As (fun U => U.heap.size = H.size ∧ WD D cy X (fun _ => True) S U ∧ NW U ∧ TH (va_A (X ++ PL cy S) H.size) U)) As := ⟨fun a U g mk q => ⟨q.1, q.2.1, q.2.2.1.calling, NW.same (u := U) (U := U.calling g mk a) rfl q.2.2.2.1, q.2.2.2.2.calling⟩, fun U hU hW => ⟨rfl, by rw [hU], wd_pre hP hK hD hU hW, hN.warm hW, th_pre hTH hS hF hU hW⟩⟩
theorem pSto {As : List Value} {s : State} {H : Heap} {D : va_G} {cy : Nat → ClassId} {X : va_W} {A : Nat → Prop} {S : wPS} {locs : List Loc} {e0 mi : Nat} (hP : va_P D vwCl (X ++ PL cy S) H) (hK : va_K D vwCl (tyL cy) s) (hD : va_D A (X ++ PL cy S)) (hN : NW s) (hTH : TH A s) (hOU : OU e0 mi A s s.heap) (hS : va_S A s.heap H locs) (hF : ∀ q, (va_A (X ++ PL cy S) H.size) q → A q) : PreS s H (va_Pc As (fun U => U.heap.size = H.size ∧ WD D cy X (fun _ => True) S U ∧ NW U ∧ TH (va_A (X ++ PL cy S) H.size) U ∧ OU e0 mi (va_A (X ++ PL cy S) H.size) U U.heap)) As := ⟨fun a U g mk q => ⟨q.1, q.2.1, q.2.2.1.calling, NW.same (u := U) (U := U.calling g mk a) rfl q.2.2.2.1, q.2.2.2.2.1.calling, q.2.2.2.2.2.calling⟩, fun U hU hW => ⟨rfl, by rw [hU], wd_pre hP hK hD hU hW, hN.warm hW, th_pre hTH hS hF hU hW, ou_pre hOU hS hF hU hW⟩⟩
theorem pV {As : List Value} {s : State} {H : Heap} {D : va_G} {cy : Nat → ClassId} {X : va_W} {A : Nat → Prop} {S : wPS} {C : String} {b : Addr} (hr : ∃ cell : Cell, H[b]? = some cell ∧ cell.vm.isStatics = false ∧ s.vm.findClass C = some cell.cls) (hP : va_P D vwCl (X ++ PL cy S) H) (hK : va_K D vwCl (tyL cy) s) (hD : va_D A (X ++ PL cy S)) (hN : NW s) : PreV s H C b (va_Pc (.ref b :: As) (fun U => U.heap.size = H.size ∧ WD D cy X (fun _ => True) S U ∧ NW U)) As := ⟨fun a U g mk q => ⟨q.1, q.2.1, q.2.2.1.calling, NW.same (u := U) (U := U.calling g mk a) rfl q.2.2.2⟩, hr, fun U hU hW => ⟨rfl, by rw [hU], wd_pre hP hK hD hU hW, hN.warm hW⟩⟩
theorem pVo {As : List Value} {s : State} {H : Heap} {D : va_G} {cy : Nat → ClassId} {X : va_W} {A : Nat → Prop} {S : wPS} {locs : List Loc} {e0 mi : Nat} {C : String} {b : Addr} (hr : ∃ cell : Cell, H[b]? = some cell ∧ cell.vm.isStatics = false ∧ s.vm.findClass C = some cell.cls) (hP : va_P D vwCl (X ++ PL cy S) H) (hK : va_K D vwCl (tyL cy) s) (hD : va_D A (X ++ PL cy S)) (hN : NW s) (hOU : OU e0 mi A s s.heap) (hS : va_S A s.heap H locs) (hF : ∀ q, (va_A (X ++ PL cy S) H.size) q → A q) : PreV s H C b (va_Pc (.ref b :: As) (fun U => U.heap.size = H.size ∧ WD D cy X (fun _ => True) S U ∧ NW U ∧ OU e0 mi (va_A (X ++ PL cy S) H.size) U U.heap)) As := ⟨fun a U g mk q => ⟨q.1, q.2.1, q.2.2.1.calling, NW.same (u := U) (U := U.calling g mk a) rfl q.2.2.2.1, q.2.2.2.2.calling⟩, hr, fun U hU hW => ⟨rfl, by rw [hU], wd_pre hP hK hD hU hW, hN.warm hW, ou_pre hOU hS hF hU hW⟩⟩
theorem pVt {As : List Value} {s : State} {H : Heap} {D : va_G} {cy : Nat → ClassId} {X : va_W} {A : Nat → Prop} {S : wPS} {locs : List Loc} {C : String} {b : Addr} (hr : ∃ cell : Cell, H[b]? = some cell ∧ cell.vm.isStatics = false ∧ s.vm.findClass C = some cell.cls) (hP : va_P D vwCl (X ++ PL cy S) H) (hK : va_K D vwCl (tyL cy) s) (hD : va_D A (X ++ PL cy S)) (hN : NW s) (hTH : TH A s) (hS : va_S A s.heap H locs) (hF : ∀ q, (va_A (X ++ PL cy S) H.size) q → A q) : PreV s H C b (va_Pc (.ref b :: As) (fun U => U.heap.size = H.size ∧ WD D cy X (fun _ => True) S U ∧ NW U ∧ TH (va_A (X ++ PL cy S) H.size) U)) As := ⟨fun a U g mk q => ⟨q.1, q.2.1, q.2.2.1.calling, NW.same (u := U) (U := U.calling g mk a) rfl q.2.2.2.1, q.2.2.2.2.calling⟩, hr, fun U hU hW => ⟨rfl, by rw [hU], wd_pre hP hK hD hU hW, hN.warm hW, th_pre hTH hS hF hU hW⟩⟩
theorem pVto {As : List Value} {s : State} {H : Heap} {D : va_G} {cy : Nat → ClassId} {X : va_W} {A : Nat → Prop} {S : wPS} {locs : List Loc} {e0 mi : Nat} {C : String} {b : Addr} (hr : ∃ cell : Cell, H[b]? = some cell ∧ cell.vm.isStatics = false ∧ s.vm.findClass C = some cell.cls) (hP : va_P D vwCl (X ++ PL cy S) H) (hK : va_K D vwCl (tyL cy) s) (hD : va_D A (X ++ PL cy S)) (hN : NW s) (hTH : TH A s) (hOU : OU e0 mi A s s.heap) (hS : va_S A s.heap H locs) (hF : ∀ q, (va_A (X ++ PL cy S) H.size) q → A q) : PreV s H C b (va_Pc (.ref b :: As) (fun U => U.heap.size = H.size ∧ WD D cy X (fun _ => True) S U ∧ NW U ∧ TH (va_A (X ++ PL cy S) H.size) U ∧ OU e0 mi (va_A (X ++ PL cy S) H.size) U U.heap)) As := ⟨fun a U g mk q => ⟨q.1, q.2.1, q.2.2.1.calling, NW.same (u := U) (U := U.calling g mk a) rfl q.2.2.2.1, q.2.2.2.2.1.calling, q.2.2.2.2.2.calling⟩, hr, fun U hU hW => ⟨rfl, by rw [hU], wd_pre hP hK hD hU hW, hN.warm hW, th_pre hTH hS hF hU hW, ou_pre hOU hS hF hU hW⟩⟩
