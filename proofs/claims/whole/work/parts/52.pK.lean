def zB (ν : Me) (n b : Nat) : Prop := ∀ s, s < n → ν 143 s = -1 → ν 137 (b + 7 + s) = 0
def RT (μ ν : Me) : Prop := ∃ l : Nat, l ≤ 240 ∧ μ 1 1 = nI l ∧ ν 136 14 = nI l ∧ ∀ i, i < l → μ 2 i = ν 146 i ∧ ¬ ν 146 i < 0
def RP (μ ν : Me) (n : Nat) : Prop := ∃ x y : Nat, x < 30 ∧ y ≤ 30 ∧ μ 28 1 = nI x ∧ μ 28 2 = nI y ∧ ν 136 22 = nI y ∧ ∀ j, j < y → dR n μ (30 + 3 * ((x + 30 - y + j) % 30)) ν (72 + 18 * j) ∧ zB ν n (72 + 18 * j)
def RG (μ ν : Me) (n : Nat) : Prop := ∀ i, i < 2 → μ (127 + 4 * i) 2 = ν 138 i ∧ (¬ ν 138 i = 0 → dR n μ (128 + 4 * i) ν (36 + 18 * i) ∧ zB ν n (36 + 18 * i) ∧ ∃ z : Nat, z < 2147483648 ∧ μ (127 + 4 * i) 1 = nI z ∧ ν 137 (36 + 18 * i + 17) = nI z)
def RE (μ ν : Me) : Prop := ∃ z : Nat, z ≤ 6 ∧ μ 120 2 = nI z ∧ ν 136 26 = nI z ∧ ∀ i, i < z → μ 121 i = ν 149 i ∧ μ 122 i = ν 150 i
def RK (μ ν : Me) (n : Nat) : Prop := ∃ z : Nat, z ≤ 20 ∧ μ 123 2 = nI z ∧ ν 136 30 = nI z ∧ ∀ i, i < z → μ 124 i = ν 152 i ∧ μ 125 i = ν 153 i ∧ ∃ j : Nat, j < n ∧ ν 152 i = nI j
def RU (μ : Me) : Prop := ∀ s, s < 7 → μ 21 s = 1 ∧ μ 22 s = 0
def RN (μ ν : Me) (n : Nat) : Prop := dR n μ 17 ν 0 ∧ zB ν n 0 ∧ (∃ z : Nat, z < 2147483648 ∧ μ 0 11 = nI z ∧ ν 137 17 = nI z) ∧ ∀ s, s < n → ν 143 s = -1 → ν 144 s = 0
def Rel (μ ν : Me) (n d : Nat) : Prop := RS μ ν n d ∧ μ 1 3 = ν 136 18 ∧ RT μ ν ∧ RN μ ν n ∧ RP μ ν n ∧ RG μ ν n ∧ RE μ ν ∧ RK μ ν n ∧ RU μ
