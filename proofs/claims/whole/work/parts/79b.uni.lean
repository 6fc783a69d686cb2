/-! THE QUERIES from the invariant -/
section zsi
variable {c r : rj_M} {a0 a1 a2 : Int32} {n : Nat}
theorem zu_dateAt (h : zi_I n c r) : zo_out ["java/lang/IllegalArgumentException"] (fX11_dateAt c a0 a1) ((mX12_dateAt r a0 a1).1 395 0) (fX12_dateAt r a0 a1) ∧ zi_op n c c r (mX12_dateAt r a0 a1) ∧ qX12_dateAt r a0 a1 := by
  have h0 := h
  obtain ⟨s, L, G, h1, h2, ok⟩ := h0
  obtain ⟨a, b⟩ := zo_dateAt (a0 := a0) (a1 := a1) h1.1.1 h2.1 ok.1.1
  exact ⟨a, zi_query h zo_cst_rfl (zo_rst_of b), zqq_dateAt⟩
theorem zu_walk (h : zi_I n c r) : zo_out ["java/lang/IndexOutOfBoundsException"] (fX11_walk c a0 a1) ((mX12_walk r a0 a1).1 395 0) (fX12_walk r a0 a1) ∧ zi_op n c c r (mX12_walk r a0 a1) ∧ qX12_walk r a0 a1 := by
  have h0 := h
  obtain ⟨s, L, G, h1, h2, ok⟩ := h0
  obtain ⟨a, b⟩ := zo_walk (a0 := a0) (a1 := a1) h1.1.2.1 h2.1 ok.1.2.1
  exact ⟨a, zi_query h zo_cst_rfl (zo_rst_of b), zqq_walk h2.1 ok.1.2.1⟩
theorem zu_line (h : zi_I n c r) : zo_out ["java/lang/IndexOutOfBoundsException"] (fX11_line c a0) ((mX12_line r a0).1 395 0) (fX12_line r a0) ∧ zi_op n c c r (mX12_line r a0) ∧ qX12_line r a0 := by
  have h0 := h
  obtain ⟨s, L, G, h1, h2, ok⟩ := h0
  obtain ⟨a, b⟩ := zo_line (a0 := a0) h1.1.2.2.2.2.1 h2.1
  exact ⟨a, zi_query h zo_cst_rfl (zo_rst_of b), zqq_line⟩
theorem zu_front (h : zi_I n c r) : zo_out ["java/lang/IndexOutOfBoundsException", "java/util/NoSuchElementException"] (fX11_front c a0 a1) ((mX12_front r a0 a1).1 395 0) (fX12_front r a0 a1) ∧ zi_op n c c r (mX12_front r a0 a1) ∧ qX12_front r a0 a1 := by
  have h0 := h
  obtain ⟨s, L, G, h1, h2, ok⟩ := h0
  obtain ⟨a, b⟩ := zo_front (a0 := a0) (a1 := a1) h1.1.2.2.2.2.1 h2.1
  exact ⟨a, zi_query h zo_cst_rfl (zo_rst_of b), zqq_front⟩
theorem zu_waitOf (h : zi_I n c r) : zo_out ["java/lang/IndexOutOfBoundsException"] (fX11_waitOf c a0) ((mX12_waitOf r a0).1 395 0) (fX12_waitOf r a0) ∧ zi_op n c c r (mX12_waitOf r a0) ∧ qX12_waitOf r a0 := by
  have h0 := h
  obtain ⟨s, L, G, h1, h2, ok⟩ := h0
  obtain ⟨a, b⟩ := zo_waitOf (a0 := a0) h1.1.2.2.2.2.1 h2.1
  exact ⟨a, zi_query h zo_cst_rfl (zo_rst_of b), zqq_waitOf h1.1.2.2.2.2.1 h2.1⟩
theorem zu_served (h : zi_I n c r) : fX11_served c = fX12_served r ∧ (mX12_served r).1 395 0 = 0 ∧ zi_op n c c r (mX12_served r) := by
  have h0 := h
  obtain ⟨s, L, G, h1, h2, ok⟩ := h0
  obtain ⟨a, a', b⟩ := zo_served h1.1.2.2.2.2.1 h2.1
  exact ⟨a, a', zi_query h zo_cst_rfl (zo_rst_of b)⟩
theorem zu_clash (h : zi_I n c r) : zo_out ["java/lang/IndexOutOfBoundsException", "java/lang/IllegalArgumentException"] (fX11_clash c a0 a1) ((mX12_clash r a0 a1).1 395 0) (fX12_clash r a0 a1) ∧ zi_op n c c r (mX12_clash r a0 a1) ∧ (∀ v, fX11_clash c a0 a1 = .inl v → v = 0 ∨ v = 1) := by
  have h0 := h
  obtain ⟨s, L, G, h1, h2, ok⟩ := h0
  obtain ⟨a, b, d⟩ := zo_clash (a0 := a0) (a1 := a1) h1.1.2.2.1 h2.1 ok.1.2.2.1
  exact ⟨a, zi_query h zo_cst_rfl (zo_rst_of b), d⟩
theorem zu_ticketAt (h : zi_I n c r) : zo_out ["java/lang/IndexOutOfBoundsException"] (fX11_ticketAt c a0 a1) ((mX12_ticketAt r a0 a1).1 395 0) (fX12_ticketAt r a0 a1) ∧ zi_op n c c r (mX12_ticketAt r a0 a1) := by
  have h0 := h
  obtain ⟨s, L, G, h1, h2, ok⟩ := h0
  obtain ⟨a, b⟩ := zo_ticketAt (a0 := a0) (a1 := a1) h1.1.2.2.2.2.2.2.2 h2.1
  exact ⟨a, zi_query h zo_cst_rfl (zo_rst_of b)⟩
theorem zu_lost (h : zi_I n c r) : fX11_lost c = fX12_lost r ∧ (mX12_lost r).1 395 0 = 0 ∧ zi_op n c c r (mX12_lost r) := by
  have h0 := h
  obtain ⟨s, L, G, h1, h2, ok⟩ := h0
  obtain ⟨a, a', b⟩ := zo_lost h1.1.2.1 h2.1
  exact ⟨a, a', zi_query h zo_cst_rfl (zo_rst_of b)⟩
theorem zu_acts (h : zi_I n c r) : fX11_acts c = fX12_acts r ∧ (mX12_acts r).1 395 0 = 0 ∧ zi_op n c c r (mX12_acts r) := by
  have h0 := h
  obtain ⟨s, L, G, h1, h2, ok⟩ := h0
  obtain ⟨a, -, a', b⟩ := zo_acts h1.1.2.2.1 h2.1 ok.1.2.2.1
  exact ⟨a, a', zi_query h zo_cst_rfl (zo_rst_of b)⟩
theorem zu_clashes (h : zi_I n c r) : fX11_clashes c = fX12_clashes r ∧ (mX12_clashes r).1 395 0 = 0 ∧ zi_op n c c r (mX12_clashes r) := by
  have h0 := h
  obtain ⟨s, L, G, h1, h2, ok⟩ := h0
  obtain ⟨a, a', b⟩ := zo_clashes h1.1.2.2.1 h2.1 ok.1.2.2.1
  exact ⟨a, a', zi_query h zo_cst_rfl (zo_rst_of b)⟩
theorem zu_firstIn (h : zi_I n c r) : zo_out ["java/lang/IndexOutOfBoundsException", "java/lang/IllegalArgumentException"] (fX11_firstIn c a0 a1 a2) ((mX12_firstIn r a0 a1 a2).1 395 0) (fX12_firstIn r a0 a1 a2) ∧ zi_op n c c r (mX12_firstIn r a0 a1 a2) ∧ qX12_firstIn r a0 a1 a2 := by
  have h0 := h
  obtain ⟨s, L, G, h1, h2, ok⟩ := h0
  obtain ⟨a, b⟩ := zo_firstIn (a0 := a0) (a1 := a1) (a2 := a2) h1.1.2.2.1 h2.1 ok.1.2.2.1
  exact ⟨a, zi_query h zo_cst_rfl (zo_rst_of b), zqq_firstIn⟩
theorem zu_movedTo (h : zi_I n c r) : zo_out ["java/lang/IndexOutOfBoundsException"] (fX11_movedTo c a0) ((mX12_movedTo r a0).1 395 0) (fX12_movedTo r a0) ∧ zi_op n c c r (mX12_movedTo r a0) ∧ qX12_movedTo r a0 := by
  have h0 := h
  obtain ⟨s, L, G, h1, h2, ok⟩ := h0
  obtain ⟨a, b⟩ := zo_movedTo (a0 := a0) h1.1.2.2.1 h2.1 ok.1.2.2.1 h1.2.2 h2.2.2.1
  exact ⟨a, zi_query h zo_cst_rfl (zo_rst_of b), zqq_movedTo⟩
theorem zu_balance (hn : n ≤ 100000) (h : zi_I n c r) : zo_out ["java/lang/IllegalArgumentException", "java/lang/IndexOutOfBoundsException"] (fX11_balance c a0 a1) ((mX12_balance r a0 a1).1 395 0) (fX12_balance r a0 a1) ∧ zi_op n c c r (mX12_balance r a0 a1) ∧ qX12_balance r a0 a1 := by
  have h0 := h
  obtain ⟨s, L, G, h1, h2, ok⟩ := h0
  obtain ⟨a, b⟩ := zo_balance (a0 := a0) (a1 := a1) h1.1.2.2.2.2.2.2.2 h2.1 ok.1.2.2.2.2.2.2.2 hn
  exact ⟨a, zi_query h zo_cst_rfl (zo_rst_of b), zqq_balance⟩
theorem zu_checksum (hn : n ≤ 100000) (h : zi_I n c r) : fX11_checksum c = fX12_checksum r ∧ (mX12_checksum r).1 395 0 = 0 ∧ zi_op n c c r (mX12_checksum r) := by
  have h0 := h
  obtain ⟨s, L, G, h1, h2, ok⟩ := h0
  obtain ⟨a, a', b⟩ := zo_checksum h1.1.2.2.1 h1.1.2.2.2.2.2.2.2 h2.1 ok.1.2.2.1 ok.1.2.2.2.2.2.2.2 hn
  exact ⟨a, a', zi_query h zo_cst_rfl (zo_rst_of b)⟩
theorem zu_pleased (h : zi_I n c r) : fX11_pleased c a0 = fX12_pleased r a0 ∧ (mX12_pleased r a0).1 395 0 = 0 ∧ zi_op n c (mX11_pleased c a0) r (mX12_pleased r a0) ∧ qX11_pleased c a0 ∧ qX12_pleased r a0 := by
  have h0 := h
  obtain ⟨s, L, G, h1, h2, ok⟩ := h0
  obtain ⟨a, a', b, d, e⟩ := zo_pleased (a0 := a0) h1.1.2.2.1 h2.1 ok.1.2.2.1
  exact ⟨a, a', zi_query h d b, e⟩
theorem zu_outBy (h : zi_I n c r) : fX11_outBy c = fX12_outBy r ∧ (mX12_outBy r).1 395 0 = 0 ∧ zi_op n c c r (mX12_outBy r) ∧ qX11_outBy c ∧ qX12_outBy r := by
  have h0 := h
  obtain ⟨s, L, G, h1, h2, ok⟩ := h0
  obtain ⟨a, a', b, e⟩ := zo_outBy h1.1.2.2.2.1 h2.1 ok.1.2.2.2.1
  exact ⟨a, a', zi_query h zo_cst_rfl (zo_rst_of b), e⟩
theorem zu_cut (h : zi_I n c r) : fX11_cut c = fX12_cut r ∧ (mX12_cut r).1 395 0 = 0 ∧ zi_op n c c r (mX12_cut r) ∧ qX11_cut c ∧ qX12_cut r := by
  have h0 := h
  obtain ⟨s, L, G, h1, h2, ok⟩ := h0
  obtain ⟨a, a', b, e⟩ := zo_cut h1.1.2.2.2.1 h2.1 ok.1.2.2.2.1
  exact ⟨a, a', zi_query h zo_cst_rfl (zo_rst_of b), e⟩
theorem zu_proof (h : zi_I n c r) : fX11_proof c = fX12_proof r ∧ (mX12_proof r).1 395 0 = 0 ∧ zi_op n c (mX11_proof c) r (mX12_proof r) ∧ qX12_proof r := by
  have h0 := h
  obtain ⟨s, L, G, h1, h2, ok⟩ := h0
  obtain ⟨a, a', b, d, e⟩ := zo_proof h1.1.2.2.2.2.2.1 h2.1 ok.1.2.2.2.2.2.1
  exact ⟨a, a', zi_query h d b, e⟩
theorem zu_helpers (h : zi_I n c r) : zo_out ["java/lang/IndexOutOfBoundsException"] (fX11_helpers c a0) ((mX12_helpers r a0).1 395 0) (fX12_helpers r a0) ∧ zi_op n c (mX11_helpers c a0) r (mX12_helpers r a0) ∧ qX11_helpers c a0 ∧ qX12_helpers r a0 := by
  have h0 := h
  obtain ⟨s, L, G, h1, h2, ok⟩ := h0
  obtain ⟨a, b, d, e⟩ := zo_helpers (a0 := a0) h1.1.2.2.2.2.2.1 h2.1 ok.1.2.2.2.2.2.1
  exact ⟨a, zi_query h d b, e⟩
theorem zu_cost (h : zi_I n c r) : fX11_cost c = fX12_cost r ∧ (mX12_cost r).1 395 0 = 0 ∧ zi_op n c (mX11_cost c) r (mX12_cost r) ∧ qX12_cost r := by
  have h0 := h
  obtain ⟨s, L, G, h1, h2, ok⟩ := h0
  obtain ⟨a, a', b, d, e⟩ := zo_cost h1.1.2.2.2.2.2.2.1 h2.1 ok.1.2.2.2.2.2.2.1 h2.2.2.2.1
  exact ⟨a, a', zi_query h d b, e⟩
theorem zu_isOn (h : zi_I n c r) : zo_out ["java/lang/IndexOutOfBoundsException", "java/util/NoSuchElementException"] (fX11_isOn c a0) ((mX12_isOn r a0).1 395 0) (fX12_isOn r a0) ∧ zi_op n c (mX11_isOn c a0) r (mX12_isOn r a0) ∧ qX12_isOn r a0 := by
  have h0 := h
  obtain ⟨s, L, G, h1, h2, ok⟩ := h0
  obtain ⟨a, b, d, e⟩ := zo_isOn (a0 := a0) h1.1.2.2.2.2.2.2.1 h2.1 ok.1.2.2.2.2.2.2.1 h2.2.2.2.1
  exact ⟨a, zi_query h d b, e⟩
theorem zu_actAt (h : zi_I n c r) : zo_out ["java/lang/IndexOutOfBoundsException", "java/lang/IllegalArgumentException"] (fX11_actAt c a0 a1) ((mX12_actAt r a0 a1).1 395 0) (fX12_actAt r a0 a1) ∧ zi_op n c (mX11_actAt c a0 a1) r (mX12_actAt r a0 a1) ∧ qX11_actAt c a0 a1 ∧ qX12_actAt r a0 a1 := by
  have h0 := h
  obtain ⟨s, L, G, h1, h2, ok⟩ := h0
  obtain ⟨a, b, d, e⟩ := zo_actAt (a0 := a0) (a1 := a1) h1.1.2.2.1 h2.1 ok.1.2.2.1
  exact ⟨a, zi_query h d b, e⟩
theorem zu_waits {kN : Nat} (hn : n ≤ 1000) (hk : 440 ≤ kN) (h : zi_I n c r) : fX11_waits c a0 = fX12_waits r a0 kN ∧ (mX12_waits r a0 kN).1 395 0 = 0 ∧ zi_op n c (mX11_waits c a0) r (mX12_waits r a0 kN) ∧ qX12_waits r a0 kN := by
  have h0 := h
  obtain ⟨s, L, G, h1, h2, ok⟩ := h0
  obtain ⟨a, a', b, d, e⟩ := zo_waits (a0 := a0) h1.1.2.2.2.2.1 h2.1 ok.1.2.2.2.2.1 hn hk h2.2.2.2.2
  exact ⟨a, a', zi_query h d b, e⟩
end zsi
