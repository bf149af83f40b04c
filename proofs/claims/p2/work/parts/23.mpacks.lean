theorem ct_X7_packs (σ : SS) (x1 : Int32) (hI : Inv σ) : ConI yX7_packs cX7_packs 3 (some .boolean) 2 (some 30) [.int x1] σ (fun r σ' => Gd σ σ' ∧ (r = 0 ∨ r = 1)) := sorry
