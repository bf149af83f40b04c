theorem ct_X7_goDown (σ : SS) (x1 : Int32) (x2 : Int32) (hI : Inv σ) : ConV yX7_goDown cX7_goDown 8 none 3 (some 30) [.int x1, .int x2] σ (fun σ' => Gd σ σ') := sorry
