section ZQ54
def zlnd (b1 b2 b3 b4 b5 b6 b7 b8 b9 b10 : Bool) : Bool := decide (10 < cond b1 1 0 + cond b2 2 0 + cond b3 3 0 + cond b4 4 0 + cond b5 5 0 + cond b6 6 0 + cond b7 7 0 + cond b8 8 0 + cond b9 9 0 + cond b10 10 0) || (List.range 30).any (fun n => (!b1 || (n + 1) % 1 == 0) && (!b2 || (n + 1) % 2 == 0) && (!b3 || (n + 1) % 3 == 0) && (!b4 || (n + 1) % 4 == 0) && (!b5 || (n + 1) % 5 == 0) && (!b6 || (n + 1) % 6 == 0) && (!b7 || (n + 1) % 7 == 0) && (!b8 || (n + 1) % 8 == 0) && (!b9 || (n + 1) % 9 == 0) && (!b10 || (n + 1) % 10 == 0))
theorem zlnd_all : ∀ b1 b2 b3 b4 b5 b6 b7 b8 b9 b10 : Bool, zlnd b1 b2 b3 b4 b5 b6 b7 b8 b9 b10 = true := by decide +kernel
end ZQ54
