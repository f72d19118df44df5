section
theorem vals_row {P P1 : PH} {b k : Int} (h : P1 3 = P 3) : vals P1 b k = vals P b k := vals_eq fun _ => congrFun h _
end
