def px_h0 (xs : List Int32) : px_H := [(20, xs.map Value.int), (20, [.int 1, .int 0, .int (-1), .int 0]), (20, [.int 0, .int 1, .int 0, .int (-1)]), (20, [.int 0, .int (-1), .int (-1), .int 0]), (20, [.int 0, .int 0, .int (-1), .int (-1)]), (20, [.int 0, .int 0, .int (-1), .int (-1)]), (20, [.int (-1), .int 0, .int 0, .int (-1)]), (30, [])]
def px_r (xs : List Int32) : Option px_O := (px_run 12 100000 6 0 [(0, .ref 0)] [] (px_h0 xs)).map (fun q => q.1)
set_option maxRecDepth 100000 in
theorem px_test1 : px_r [6, 6, 0, 1, 1, 1] = some (.inl (some (.int 1))) := by decide +kernel
set_option maxRecDepth 100000 in
theorem px_test2 : px_r [6, 6, 0, -1, 1, 1] = some (.inl (some (.int 1))) := by decide +kernel
set_option maxRecDepth 100000 in
theorem px_test3 : px_r [6, 6, 6, 13, 1, 1] = some (.inl (some (.int 1))) := by decide +kernel
set_option maxRecDepth 100000 in
theorem px_test4 : px_r [6, 6, 5, 13, 1, 1] = some (.inl (some (.int 1))) := by decide +kernel
