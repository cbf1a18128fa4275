/-! What class and model hold alike: fronds, debts, what was lost (now, and as kept), the page -/
def RC (k l o t rows : Nat → Int32) : Prop :=
  (∀ f : Nat, f < 10 → rows (8 * f) = k f ∧ rows (8 * f + 1) = l f ∧ rows (8 * f + 2) = o f) ∧
    (∀ f j : Nat, f < 10 → j < 4 → rows (8 * f + (4 + j)) = t (4 * f + j)) ∧
    (∀ f : Nat, f < 10 → (∃ c : Nat, c < 5 ∧ k f = nI c) ∧ (∃ c : Nat, c < 10 ∧ l f = nI c) ∧ (o f = -1 ∨ ∃ c : Nat, c < 6 ∧ o f = nI c))
def RD (d debts : Nat → Int32) : Prop := ∀ i : Nat, i < 36 → debts i = d i ∧ ∃ c : Nat, c < 100 ∧ d i = nI c
def RelH (k l o t d : Nat → Int32) (sz bh bm : Int32) (rows debts : Nat → Int32) (many mh mm : Int32) : Prop :=
  ∃ n : Nat, n ≤ 10 ∧ sz = nI n ∧ many = nI n ∧ mh = bh ∧ mm = bm ∧ RC k l o t rows ∧ RD d debts
def RelP (codes : Nat → Int32) (size : Int32) (page : Nat → Int32) (many : Int32) : Prop :=
  ∃ p : Nat, p ≤ 22 ∧ size = nI p ∧ many = nI p ∧ ∀ i : Nat, i < p → page i = codes i ∧ ∃ c : Nat, c < 128 ∧ codes i = nI c
def Rel (nk nl no nt nd : Nat → Int32) (nsz nbh nbm : Int32) (kk kl ko kt kd : Nat → Int32) (ksz kbh kbm isKept : Int32) (codes : Nat → Int32) (psz : Int32) (page : Nat → Int32) (pageMany : Int32) (rows debts : Nat → Int32) (many mh mm : Int32) (keptRows keptDebts : Nat → Int32) (keptMany keptBH keptBM : Int32) (gb ge : Nat → Int32) : Prop :=
  RelH nk nl no nt nd nsz nbh nbm rows debts many mh mm ∧ RelP codes psz page pageMany ∧
    ((isKept = 0 ∧ keptMany = -1) ∨ (¬ isKept = 0 ∧ RelH kk kl ko kt kd ksz kbh kbm keptRows keptDebts keptMany keptBH keptBM)) ∧ gb 0 = 0 ∧ ge 0 = 0
theorem rel_init : Rel (fun _ => 0) (fun _ => 0) (fun _ => 0) (fun _ => 0) (fun _ => 0) 0 0 0 (fun _ => 0) (fun _ => 0) (fun _ => 0) (fun _ => 0) (fun _ => 0) 0 0 0 0 (fun _ => 0) 0 (fun _ => 0) 0 (fun _ => 0) (fun _ => 0) 0 0 0 (fun _ => 0) (fun _ => 0) (-1) 0 0 (fun _ => 0) (fun _ => 0) := by
  refine ⟨⟨0, by omega, rfl, rfl, rfl, rfl, ⟨fun f hf => ⟨rfl, rfl, rfl⟩, fun f j hf hj => rfl, fun f hf => ⟨⟨0, by omega, rfl⟩, ⟨0, by omega, rfl⟩, Or.inr ⟨0, by omega, rfl⟩⟩⟩, fun i hi => ⟨rfl, 0, by omega, rfl⟩⟩, ⟨0, by omega, rfl, rfl, fun i hi => absurd hi (Nat.not_lt_zero i)⟩, Or.inl ⟨rfl, rfl⟩, rfl, rfl⟩
