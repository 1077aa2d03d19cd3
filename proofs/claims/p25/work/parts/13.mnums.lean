/-! the reference: numbers of the mask, of cells and of picks -/
abbrev imk (f : Int → Int) (x y : Int) : Bool := decide (iCell x y ∧ 50 ≤ f (16 * y + x))
abbrev ieg (f : Int → Int) (x y : Int) : Int := (if imk f x y ≠ imk f (x + 1) y then 1 else 0) + (if imk f x y ≠ imk f x (y + 1) then 1 else 0)
abbrev iegr (f : Int → Int) (j : Int) : Int := isum (fun i => ieg f (i - 1) (j - 1)) 17
abbrev idif (z : Int → Int) : Int := isum (fun s => b2i (iex (fun j => decide (z j = s)) 160)) 100
abbrev ipat (z : Int → Int) (c : Int) : Int := isum (fun p => if 0 < z (161 + 169 * p + (9 + c)) then 1 else 0) (z 160)
abbrev icel (z f : Int → Int) (c a : Int) : Int := if a = 0 then z c else if a = 1 then f c else ipat z c
abbrev ipic (z : Int → Int) (p a : Int) : Int := if a < 9 then z (161 + 169 * p + a) else isum (fun k => if a = 11 then z (161 + 169 * p + (9 + k)) else if (if a = 9 then 100 else 1) ≤ z (161 + 169 * p + (9 + k)) then 1 else 0) 160
abbrev icnt (z f : Int → Int) (s a : Int) : Int := if a = 0 then z 160 else if a = 1 then isum (fun p => z (161 + 169 * p + 7)) (z 160) else if a = 2 then isum (fun k => if 100 ≤ f k then 1 else 0) 160 else if a = 3 then isum (fun k => if 1 ≤ f k then 1 else 0) 160 else if a = 4 then isum f 160 else if a = 5 then isum (iegr f) 11 else if a = 6 then isum z 160 else if a = 7 then idif z else s
