/-! THE RELATION between the class's cells and the reference's rows -/
def RC (b : Nat → Nat → Int32) (f : Nat → Int32) : Prop := ∀ c w, c < 6 → w < 7 → b (1 + w) c = f (7 * c + w)
def RB (st : Nat → Int32) (b : Nat → Nat → Int32) (f : Nat → Int32) : Prop := ∃ N d : Nat, N + 1 ≤ 6 ∧ 100 ≤ d ∧ d ≤ 5000 ∧ st 0 = nI d ∧ b 0 0 = nI (N + 1) ∧ f 71 = nI (N + 1) ∧ RC b f ∧ ∀ c, c ≤ N → ∃ a r : Nat, a ≤ d ∧ r ≤ 99 ∧ b 1 c = nI a ∧ b 2 c = nI r
def RT (st f : Nat → Int32) : Prop := ∀ k, k < 9 → st k = f (42 + k) ∧ cLeast k ≤ st k ∧ st k ≤ cMost k
def RV (k a b t : Int32) : Prop := ((k = 0 ∧ 1 ≤ a ∧ a ≤ 2000 ∧ 3000 ≤ b ∧ b ≤ 4500) ∨ (k = 1 ∧ 3000 ≤ a ∧ a ≤ 4500 ∧ 0 ≤ b ∧ b ≤ 2000) ∨ (k = 2 ∧ 1 ≤ a ∧ a ≤ 999)) ∧ 0 ≤ t ∧ t ≤ 999
def RP (pf : Nat → Nat → Int32) (f : Nat → Int32) : Prop := ∃ S : Nat, S ≤ 5 ∧ pf 0 0 = nI S ∧ f 72 = nI S ∧ ∀ k, k < S → (∀ w, w < 4 → pf (1 + w) k = f (51 + 4 * k + w)) ∧ RV (pf 1 k) (pf 2 k) (pf 3 k) (pf 4 k)
def RO (o : Nat → Int32) (pf : Nat → Nat → Int32) (f : Nat → Int32) : Prop := o 0 = f 73 ∧ o 1 = f 74 ∧ o 2 = f 75 ∧ o 3 = f 76 ∧ o 4 = f 77 ∧ o 5 = f 80 ∧ o 6 = f 78 ∧ o 7 = f 79 ∧ gz (o 5) ∧ (o 0 = 1 → 0 ≤ o 1 ∧ o 1 < pf 0 0)
def RL_ (g : Nat → Nat → Int32) (f : Nat → Int32) : Prop := ∃ E X : Nat, E ≤ 10 ∧ X < 10 ∧ g 0 0 = nI E ∧ g 0 1 = nI X ∧ f 81 = nI E ∧ ∀ j w, j < E → w < 3 → g (1 + w) ((X + 9 - j) % 10) = f (82 + 3 * (E - 1 - j) + w)
def RS (o st : Nat → Int32) (b pf g : Nat → Nat → Int32) (f : Nat → Int32) : Prop := RB st b f ∧ RT st f ∧ RP pf f ∧ RO o pf f ∧ RL_ g f
def RSv (v : SVal) (f : Nat → Int32) : Prop := RS v.1 v.2.1 v.2.2.1 v.2.2.2.1 v.2.2.2.2 f
def RH (hh : HVal) (mo fw : Nat → Int32) : Prop := hh.1 ≤ 4 ∧ hh.2.1 < 4 ∧ mo 0 = nI hh.1 ∧ ∀ j, j < hh.1 → RSv (hh.2.2 j) (fun k => fw (112 * j + k))
def RN (cx so sst : Nat → Int32) (sb sp sg : Nat → Nat → Int32) (mo fs : Nat → Int32) : Prop := gz (cx 0) ∧ mo 1 = cx 0 ∧ (cx 0 = 1 → RS so sst sb sp sg fs)
def RX (t : Nat → Nat → Int32) (mo tx : Nat → Int32) : Prop := ∃ n : Nat, n ≤ 60 ∧ t 0 0 = nI n ∧ mo 2 = nI n ∧ ∀ j, j < n → t 1 j = tx j
def Rel (cx o st : Nat → Int32) (b pf g : Nat → Nat → Int32) (so sst : Nat → Int32) (sb sp sg : Nat → Nat → Int32) (hh : HVal) (t : Nat → Nat → Int32) (mo f fw fs tx : Nat → Int32) : Prop := RS o st b pf g f ∧ RH hh mo fw ∧ RN cx so sst sb sp sg mo fs ∧ RX t mo tx
