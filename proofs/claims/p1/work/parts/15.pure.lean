def f_known (c : Int32) : Int32 := if c < 0 then 0 else if 5 < c then 0 else 1
def f_both (a b : Int32) : Int32 := if f_known a = 0 then 0 else if f_known b = 0 then 0 else 1
def f_one (c : Int32) : Int32 := if f_known c = 0 then (-1) else 0
def f_two (a b : Int32) : Int32 := if f_both a b = 0 then (-1) else 0
def f_end (n : Int32) : Int32 := if n < 0 then 0 else if n ≤ 0 then 1 else 0
def f_rows (n : Int32) : Int32 := if n < 1 then (-1) else if n ≤ 3 then 0 else (-1)
def f_isL (x : Int32) : Int32 := if x < 0 then 0 else if 65535 < x then 0 else if x < 55296 then 1 else if x ≤ 57343 then 0 else 1
def f_tell (v : Int32) : Int32 := if v < 0 then 0 else if v ≤ 200 then 1 else 0
def f_cost (x y v : Int32) : Int32 := if f_isL x = 0 then 0 else if f_isL y = 0 then 0 else if f_tell v = 0 then 0 else 1
def p_pair (x y : Int32) : Int32 := (x <<< (16 &&& 31)) ||| y
def f_blank (c : Int32) : Int32 := if c = 4 then 1 else if c = 5 then 1 else 0
def f_count (w : Int32) : Int32 := if w = 0 then 0 else if w = 1 then 0 else if w = 2 then 0 else if w = 3 then 0 else if w = 4 then 0 else if w = 5 then 0 else if w = 6 then 0 else if w = 7 then 0 else (-1)
