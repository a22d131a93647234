set_option maxRecDepth 100000 in
theorem mb_d212_0 : ∀ q ∈ (mb_i212.drop 0).take 60, decode code q.1 = .ok (q.2.1, q.2.2) := by decide +kernel
set_option maxRecDepth 100000 in
theorem mb_d212_1 : ∀ q ∈ (mb_i212.drop 60).take 60, decode code q.1 = .ok (q.2.1, q.2.2) := by decide +kernel
set_option maxRecDepth 100000 in
theorem mb_d212_2 : ∀ q ∈ (mb_i212.drop 120).take 60, decode code q.1 = .ok (q.2.1, q.2.2) := by decide +kernel
set_option maxRecDepth 100000 in
theorem mb_d212_3 : ∀ q ∈ (mb_i212.drop 180).take 60, decode code q.1 = .ok (q.2.1, q.2.2) := by decide +kernel
set_option maxRecDepth 100000 in
theorem mb_d212_4 : ∀ q ∈ (mb_i212.drop 240).take 60, decode code q.1 = .ok (q.2.1, q.2.2) := by decide +kernel
set_option maxRecDepth 100000 in
theorem mb_d212_5 : ∀ q ∈ (mb_i212.drop 300).take 60, decode code q.1 = .ok (q.2.1, q.2.2) := by decide +kernel
set_option maxRecDepth 100000 in
theorem mb_d212_6 : ∀ q ∈ (mb_i212.drop 360).take 60, decode code q.1 = .ok (q.2.1, q.2.2) := by decide +kernel
set_option maxRecDepth 100000 in
theorem mb_d212_7 : ∀ q ∈ (mb_i212.drop 420).take 60, decode code q.1 = .ok (q.2.1, q.2.2) := by decide +kernel
set_option maxRecDepth 100000 in
theorem mb_d212_8 : ∀ q ∈ (mb_i212.drop 480).take 60, decode code q.1 = .ok (q.2.1, q.2.2) := by decide +kernel
set_option maxRecDepth 100000 in
theorem mb_d212_9 : ∀ q ∈ (mb_i212.drop 540).take 60, decode code q.1 = .ok (q.2.1, q.2.2) := by decide +kernel
set_option maxRecDepth 100000 in
theorem mb_d212_10 : ∀ q ∈ (mb_i212.drop 600).take 60, decode code q.1 = .ok (q.2.1, q.2.2) := by decide +kernel
theorem mb_split {α : Type} (l : List α) (k : Nat) : l = l.take k ++ l.drop k := (List.take_append_drop k l).symm
theorem mb_d212 : ∀ q ∈ mb_i212, decode code q.1 = .ok (q.2.1, q.2.2) := by
  intro q hq
  rw [mb_split mb_i212 60] at hq
  rcases List.mem_append.mp hq with hq | hq
  · exact mb_d212_0 q (by rw [List.drop_zero]; exact hq)
  rw [mb_split (mb_i212.drop 60) 60] at hq
  rcases List.mem_append.mp hq with hq | hq
  · exact mb_d212_1 q hq
  rw [List.drop_drop] at hq
  rw [mb_split (mb_i212.drop 120) 60] at hq
  rcases List.mem_append.mp hq with hq | hq
  · exact mb_d212_2 q hq
  rw [List.drop_drop] at hq
  rw [mb_split (mb_i212.drop 180) 60] at hq
  rcases List.mem_append.mp hq with hq | hq
  · exact mb_d212_3 q hq
  rw [List.drop_drop] at hq
  rw [mb_split (mb_i212.drop 240) 60] at hq
  rcases List.mem_append.mp hq with hq | hq
  · exact mb_d212_4 q hq
  rw [List.drop_drop] at hq
  rw [mb_split (mb_i212.drop 300) 60] at hq
  rcases List.mem_append.mp hq with hq | hq
  · exact mb_d212_5 q hq
  rw [List.drop_drop] at hq
  rw [mb_split (mb_i212.drop 360) 60] at hq
  rcases List.mem_append.mp hq with hq | hq
  · exact mb_d212_6 q hq
  rw [List.drop_drop] at hq
  rw [mb_split (mb_i212.drop 420) 60] at hq
  rcases List.mem_append.mp hq with hq | hq
  · exact mb_d212_7 q hq
  rw [List.drop_drop] at hq
  rw [mb_split (mb_i212.drop 480) 60] at hq
  rcases List.mem_append.mp hq with hq | hq
  · exact mb_d212_8 q hq
  rw [List.drop_drop] at hq
  rw [mb_split (mb_i212.drop 540) 60] at hq
  rcases List.mem_append.mp hq with hq | hq
  · exact mb_d212_9 q hq
  rw [List.drop_drop] at hq
  exact mb_d212_10 q (by rw [List.take_of_length_le (by decide +kernel)]; exact hq)
