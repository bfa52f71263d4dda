/-! the words of the throws -/
set_option maxRecDepth 10000 in
theorem thr_X11_113 : (Bundle.fit "java/lang/IllegalArgumentException" = true ∧ (∀ n ∈ ["java/lang/RuntimeException", "java/lang/Exception"], Bundle.fit n = true) ∧ ["java/lang/RuntimeException", "java/lang/Exception"].length ≤ 4) := ⟨by decide +kernel, by decide +kernel, by decide⟩
set_option maxRecDepth 10000 in
theorem thw_X11_113 : (Cond.classLink RX11 113 "java/lang/IllegalArgumentException" ∈ tbw ∧ Cond.initialized "java/lang/IllegalArgumentException" ∈ tbw) ∧ ∀ w ∈ vx_at0 RX11 115 "java/lang/IllegalArgumentException" ["java/lang/RuntimeException", "java/lang/Exception"], w ∈ tbw ∨ (w ∈ nww ∧ w.onTables = true) := ⟨⟨in_tb (in_t4 (List.mem_of_getElem? (i := 107) rfl)) rfl, in_tb (in_t1 (List.mem_of_getElem? (i := 23) rfl)) rfl⟩, by decide +kernel⟩
set_option maxRecDepth 10000 in
theorem thr_X11_119 : (Bundle.fit "java/lang/UnsupportedOperationException" = true ∧ (∀ n ∈ ["java/lang/RuntimeException", "java/lang/Exception"], Bundle.fit n = true) ∧ ["java/lang/RuntimeException", "java/lang/Exception"].length ≤ 4) := ⟨by decide +kernel, by decide +kernel, by decide⟩
set_option maxRecDepth 10000 in
theorem thw_X11_119 : (Cond.classLink RX11 119 "java/lang/UnsupportedOperationException" ∈ tbw ∧ Cond.initialized "java/lang/UnsupportedOperationException" ∈ tbw) ∧ ∀ w ∈ vx_at0 RX11 121 "java/lang/UnsupportedOperationException" ["java/lang/RuntimeException", "java/lang/Exception"], w ∈ tbw ∨ (w ∈ nww ∧ w.onTables = true) := ⟨⟨in_tb (in_t4 (List.mem_of_getElem? (i := 173) rfl)) rfl, in_tb (in_t1 (List.mem_of_getElem? (i := 24) rfl)) rfl⟩, by decide +kernel⟩
set_option maxRecDepth 10000 in
theorem thr_X11_184 : (Bundle.fit "java/lang/IndexOutOfBoundsException" = true ∧ (∀ n ∈ ["java/lang/RuntimeException", "java/lang/Exception"], Bundle.fit n = true) ∧ ["java/lang/RuntimeException", "java/lang/Exception"].length ≤ 4) := ⟨by decide +kernel, by decide +kernel, by decide⟩
set_option maxRecDepth 10000 in
theorem thw_X11_184 : (Cond.classLink RX11 184 "java/lang/IndexOutOfBoundsException" ∈ tbw ∧ Cond.initialized "java/lang/IndexOutOfBoundsException" ∈ tbw) ∧ ∀ w ∈ vx_at0 RX11 186 "java/lang/IndexOutOfBoundsException" ["java/lang/RuntimeException", "java/lang/Exception"], w ∈ tbw ∨ (w ∈ nww ∧ w.onTables = true) := ⟨⟨in_tb (in_t5 (List.mem_of_getElem? (i := 12) rfl)) rfl, in_tb (in_t1 (List.mem_of_getElem? (i := 28) rfl)) rfl⟩, by decide +kernel⟩
set_option maxRecDepth 10000 in
theorem thr_X11_205 : (Bundle.fit "java/lang/IllegalStateException" = true ∧ (∀ n ∈ ["java/lang/RuntimeException", "java/lang/Exception"], Bundle.fit n = true) ∧ ["java/lang/RuntimeException", "java/lang/Exception"].length ≤ 4) := ⟨by decide +kernel, by decide +kernel, by decide⟩
set_option maxRecDepth 10000 in
theorem thw_X11_205 : (Cond.classLink RX11 205 "java/lang/IllegalStateException" ∈ tbw ∧ Cond.initialized "java/lang/IllegalStateException" ∈ tbw) ∧ ∀ w ∈ vx_at0 RX11 207 "java/lang/IllegalStateException" ["java/lang/RuntimeException", "java/lang/Exception"], w ∈ tbw ∨ (w ∈ nww ∧ w.onTables = true) := ⟨⟨in_tb (in_t5 (List.mem_of_getElem? (i := 111) rfl)) rfl, in_tb (in_t1 (List.mem_of_getElem? (i := 30) rfl)) rfl⟩, by decide +kernel⟩
set_option maxRecDepth 10000 in
theorem thr_X11_474 : (Bundle.fit "java/util/NoSuchElementException" = true ∧ (∀ n ∈ ["java/lang/RuntimeException", "java/lang/Exception"], Bundle.fit n = true) ∧ ["java/lang/RuntimeException", "java/lang/Exception"].length ≤ 4) := ⟨by decide +kernel, by decide +kernel, by decide⟩
set_option maxRecDepth 10000 in
theorem thw_X11_474 : (Cond.classLink RX11 474 "java/util/NoSuchElementException" ∈ tbw ∧ Cond.initialized "java/util/NoSuchElementException" ∈ tbw) ∧ ∀ w ∈ vx_at0 RX11 476 "java/util/NoSuchElementException" ["java/lang/RuntimeException", "java/lang/Exception"], w ∈ tbw ∨ (w ∈ nww ∧ w.onTables = true) := ⟨⟨in_tb (in_t5 (List.mem_of_getElem? (i := 80) rfl)) rfl, in_tb (in_t1 (List.mem_of_getElem? (i := 29) rfl)) rfl⟩, by decide +kernel⟩
