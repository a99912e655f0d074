/-! PRINTED by wip/tools/sxm.py: the state of the model as a tuple, its cells -/
abbrev ms_fr : Type := (Int32) × (Int32) × (Int32) × (Int32) × (Int32) × (Int32) × (Int32) × (Int32) × (Int64) × (Nat → Int32) × (Nat → Int32)
abbrev ms_ly : Type := (Int32) × (Int32) × (Int32) × (Int32) × (Int32) × (Int32) × (Int32)
abbrev ms_fl : Type := (Int32) × (Int32) × (Int32) × (Int32) × (Int32)
abbrev ms_re : Type := (Nat → Int64) × (Nat → Int64) × (Int64) × (Int64) × (Int64) × (Int32) × (Int32) × (Int64) × (Int64)
abbrev ms_io : Type := (Int32) × (Int32) × (Int32) × (Nat → Int32) × (Nat → Int32)
abbrev ms_by : Type := (Nat → Int32) × (Nat → Int32) × (Nat → Int32) × (Nat → Int32)
abbrev ms : Type := ms_fr × ms_ly × ms_fl × ms_re × ms_io × ms_by
abbrev q_op (m : ms) : Int32 := m.1.1
abbrev q_width (m : ms) : Int32 := m.1.2.1
abbrev q_condition (m : ms) : Int32 := m.1.2.2.1
abbrev q_base (m : ms) : Int32 := m.1.2.2.2.1
abbrev q_index (m : ms) : Int32 := m.1.2.2.2.2.1
abbrev q_scale (m : ms) : Int32 := m.1.2.2.2.2.2.1
abbrev q_displacement (m : ms) : Int32 := m.1.2.2.2.2.2.2.1
abbrev q_length (m : ms) : Int32 := m.1.2.2.2.2.2.2.2.1
abbrev q_number (m : ms) : Int64 := m.1.2.2.2.2.2.2.2.2.1
abbrev q_kinds (m : ms) : Nat → Int32 := m.1.2.2.2.2.2.2.2.2.2.1
abbrev q_places (m : ms) : Nat → Int32 := m.1.2.2.2.2.2.2.2.2.2.2
abbrev q_end (m : ms) : Int32 := m.2.1.1
abbrev q_textEnd (m : ms) : Int32 := m.2.1.2.1
abbrev q_rodataBegin (m : ms) : Int32 := m.2.1.2.2.1
abbrev q_rodataEnd (m : ms) : Int32 := m.2.1.2.2.2.1
abbrev q_dataBegin (m : ms) : Int32 := m.2.1.2.2.2.2.1
abbrev q_dataEnd (m : ms) : Int32 := m.2.1.2.2.2.2.2.1
abbrev q_heapSize (m : ms) : Int32 := m.2.1.2.2.2.2.2.2
abbrev q_carry (m : ms) : Int32 := m.2.2.1.1
abbrev q_parity (m : ms) : Int32 := m.2.2.1.2.1
abbrev q_zero (m : ms) : Int32 := m.2.2.1.2.2.1
abbrev q_negative (m : ms) : Int32 := m.2.2.1.2.2.2.1
abbrev q_over (m : ms) : Int32 := m.2.2.1.2.2.2.2
abbrev q_registers0 (m : ms) : Nat → Int64 := m.2.2.2.1.1
abbrev q_kept0 (m : ms) : Nat → Int64 := m.2.2.2.1.2.1
abbrev q_ip (m : ms) : Int64 := m.2.2.2.1.2.2.1
abbrev q_stopValue (m : ms) : Int64 := m.2.2.2.1.2.2.2.1
abbrev q_stepsDone (m : ms) : Int64 := m.2.2.2.1.2.2.2.2.1
abbrev q_stopKind (m : ms) : Int32 := m.2.2.2.1.2.2.2.2.2.1
abbrev q_halt (m : ms) : Int32 := m.2.2.2.1.2.2.2.2.2.2.1
abbrev q_haltValue (m : ms) : Int64 := m.2.2.2.1.2.2.2.2.2.2.2.1
abbrev q_operandAt (m : ms) : Int64 := m.2.2.2.1.2.2.2.2.2.2.2.2
abbrev q_thrown (m : ms) : Int32 := m.2.2.2.2.1.1
abbrev q_givenSize (m : ms) : Int32 := m.2.2.2.2.1.2.1
abbrev q_shownSize (m : ms) : Int32 := m.2.2.2.2.1.2.2.1
abbrev q_given (m : ms) : Nat → Int32 := m.2.2.2.2.1.2.2.2.1
abbrev q_shown (m : ms) : Nat → Int32 := m.2.2.2.2.1.2.2.2.2
abbrev q_filled (m : ms) : Nat → Int32 := m.2.2.2.2.2.1
abbrev q_memory (m : ms) : Nat → Int32 := m.2.2.2.2.2.2.1
abbrev q_heap (m : ms) : Nat → Int32 := m.2.2.2.2.2.2.2.1
abbrev q_stack (m : ms) : Nat → Int32 := m.2.2.2.2.2.2.2.2
abbrev t_op (m : ms) (v : Int32) : ms := ((v, m.1.2.1, m.1.2.2.1, m.1.2.2.2.1, m.1.2.2.2.2.1, m.1.2.2.2.2.2.1, m.1.2.2.2.2.2.2.1, m.1.2.2.2.2.2.2.2.1, m.1.2.2.2.2.2.2.2.2.1, m.1.2.2.2.2.2.2.2.2.2.1, m.1.2.2.2.2.2.2.2.2.2.2), m.2.1, m.2.2.1, m.2.2.2.1, m.2.2.2.2.1, m.2.2.2.2.2)
abbrev t_width (m : ms) (v : Int32) : ms := ((m.1.1, v, m.1.2.2.1, m.1.2.2.2.1, m.1.2.2.2.2.1, m.1.2.2.2.2.2.1, m.1.2.2.2.2.2.2.1, m.1.2.2.2.2.2.2.2.1, m.1.2.2.2.2.2.2.2.2.1, m.1.2.2.2.2.2.2.2.2.2.1, m.1.2.2.2.2.2.2.2.2.2.2), m.2.1, m.2.2.1, m.2.2.2.1, m.2.2.2.2.1, m.2.2.2.2.2)
abbrev t_condition (m : ms) (v : Int32) : ms := ((m.1.1, m.1.2.1, v, m.1.2.2.2.1, m.1.2.2.2.2.1, m.1.2.2.2.2.2.1, m.1.2.2.2.2.2.2.1, m.1.2.2.2.2.2.2.2.1, m.1.2.2.2.2.2.2.2.2.1, m.1.2.2.2.2.2.2.2.2.2.1, m.1.2.2.2.2.2.2.2.2.2.2), m.2.1, m.2.2.1, m.2.2.2.1, m.2.2.2.2.1, m.2.2.2.2.2)
abbrev t_base (m : ms) (v : Int32) : ms := ((m.1.1, m.1.2.1, m.1.2.2.1, v, m.1.2.2.2.2.1, m.1.2.2.2.2.2.1, m.1.2.2.2.2.2.2.1, m.1.2.2.2.2.2.2.2.1, m.1.2.2.2.2.2.2.2.2.1, m.1.2.2.2.2.2.2.2.2.2.1, m.1.2.2.2.2.2.2.2.2.2.2), m.2.1, m.2.2.1, m.2.2.2.1, m.2.2.2.2.1, m.2.2.2.2.2)
abbrev t_index (m : ms) (v : Int32) : ms := ((m.1.1, m.1.2.1, m.1.2.2.1, m.1.2.2.2.1, v, m.1.2.2.2.2.2.1, m.1.2.2.2.2.2.2.1, m.1.2.2.2.2.2.2.2.1, m.1.2.2.2.2.2.2.2.2.1, m.1.2.2.2.2.2.2.2.2.2.1, m.1.2.2.2.2.2.2.2.2.2.2), m.2.1, m.2.2.1, m.2.2.2.1, m.2.2.2.2.1, m.2.2.2.2.2)
abbrev t_scale (m : ms) (v : Int32) : ms := ((m.1.1, m.1.2.1, m.1.2.2.1, m.1.2.2.2.1, m.1.2.2.2.2.1, v, m.1.2.2.2.2.2.2.1, m.1.2.2.2.2.2.2.2.1, m.1.2.2.2.2.2.2.2.2.1, m.1.2.2.2.2.2.2.2.2.2.1, m.1.2.2.2.2.2.2.2.2.2.2), m.2.1, m.2.2.1, m.2.2.2.1, m.2.2.2.2.1, m.2.2.2.2.2)
abbrev t_displacement (m : ms) (v : Int32) : ms := ((m.1.1, m.1.2.1, m.1.2.2.1, m.1.2.2.2.1, m.1.2.2.2.2.1, m.1.2.2.2.2.2.1, v, m.1.2.2.2.2.2.2.2.1, m.1.2.2.2.2.2.2.2.2.1, m.1.2.2.2.2.2.2.2.2.2.1, m.1.2.2.2.2.2.2.2.2.2.2), m.2.1, m.2.2.1, m.2.2.2.1, m.2.2.2.2.1, m.2.2.2.2.2)
abbrev t_length (m : ms) (v : Int32) : ms := ((m.1.1, m.1.2.1, m.1.2.2.1, m.1.2.2.2.1, m.1.2.2.2.2.1, m.1.2.2.2.2.2.1, m.1.2.2.2.2.2.2.1, v, m.1.2.2.2.2.2.2.2.2.1, m.1.2.2.2.2.2.2.2.2.2.1, m.1.2.2.2.2.2.2.2.2.2.2), m.2.1, m.2.2.1, m.2.2.2.1, m.2.2.2.2.1, m.2.2.2.2.2)
abbrev t_number (m : ms) (v : Int64) : ms := ((m.1.1, m.1.2.1, m.1.2.2.1, m.1.2.2.2.1, m.1.2.2.2.2.1, m.1.2.2.2.2.2.1, m.1.2.2.2.2.2.2.1, m.1.2.2.2.2.2.2.2.1, v, m.1.2.2.2.2.2.2.2.2.2.1, m.1.2.2.2.2.2.2.2.2.2.2), m.2.1, m.2.2.1, m.2.2.2.1, m.2.2.2.2.1, m.2.2.2.2.2)
abbrev t_kinds (m : ms) (v : Nat → Int32) : ms := ((m.1.1, m.1.2.1, m.1.2.2.1, m.1.2.2.2.1, m.1.2.2.2.2.1, m.1.2.2.2.2.2.1, m.1.2.2.2.2.2.2.1, m.1.2.2.2.2.2.2.2.1, m.1.2.2.2.2.2.2.2.2.1, v, m.1.2.2.2.2.2.2.2.2.2.2), m.2.1, m.2.2.1, m.2.2.2.1, m.2.2.2.2.1, m.2.2.2.2.2)
abbrev t_places (m : ms) (v : Nat → Int32) : ms := ((m.1.1, m.1.2.1, m.1.2.2.1, m.1.2.2.2.1, m.1.2.2.2.2.1, m.1.2.2.2.2.2.1, m.1.2.2.2.2.2.2.1, m.1.2.2.2.2.2.2.2.1, m.1.2.2.2.2.2.2.2.2.1, m.1.2.2.2.2.2.2.2.2.2.1, v), m.2.1, m.2.2.1, m.2.2.2.1, m.2.2.2.2.1, m.2.2.2.2.2)
abbrev t_end (m : ms) (v : Int32) : ms := (m.1, (v, m.2.1.2.1, m.2.1.2.2.1, m.2.1.2.2.2.1, m.2.1.2.2.2.2.1, m.2.1.2.2.2.2.2.1, m.2.1.2.2.2.2.2.2), m.2.2.1, m.2.2.2.1, m.2.2.2.2.1, m.2.2.2.2.2)
abbrev t_textEnd (m : ms) (v : Int32) : ms := (m.1, (m.2.1.1, v, m.2.1.2.2.1, m.2.1.2.2.2.1, m.2.1.2.2.2.2.1, m.2.1.2.2.2.2.2.1, m.2.1.2.2.2.2.2.2), m.2.2.1, m.2.2.2.1, m.2.2.2.2.1, m.2.2.2.2.2)
abbrev t_rodataBegin (m : ms) (v : Int32) : ms := (m.1, (m.2.1.1, m.2.1.2.1, v, m.2.1.2.2.2.1, m.2.1.2.2.2.2.1, m.2.1.2.2.2.2.2.1, m.2.1.2.2.2.2.2.2), m.2.2.1, m.2.2.2.1, m.2.2.2.2.1, m.2.2.2.2.2)
abbrev t_rodataEnd (m : ms) (v : Int32) : ms := (m.1, (m.2.1.1, m.2.1.2.1, m.2.1.2.2.1, v, m.2.1.2.2.2.2.1, m.2.1.2.2.2.2.2.1, m.2.1.2.2.2.2.2.2), m.2.2.1, m.2.2.2.1, m.2.2.2.2.1, m.2.2.2.2.2)
abbrev t_dataBegin (m : ms) (v : Int32) : ms := (m.1, (m.2.1.1, m.2.1.2.1, m.2.1.2.2.1, m.2.1.2.2.2.1, v, m.2.1.2.2.2.2.2.1, m.2.1.2.2.2.2.2.2), m.2.2.1, m.2.2.2.1, m.2.2.2.2.1, m.2.2.2.2.2)
abbrev t_dataEnd (m : ms) (v : Int32) : ms := (m.1, (m.2.1.1, m.2.1.2.1, m.2.1.2.2.1, m.2.1.2.2.2.1, m.2.1.2.2.2.2.1, v, m.2.1.2.2.2.2.2.2), m.2.2.1, m.2.2.2.1, m.2.2.2.2.1, m.2.2.2.2.2)
abbrev t_heapSize (m : ms) (v : Int32) : ms := (m.1, (m.2.1.1, m.2.1.2.1, m.2.1.2.2.1, m.2.1.2.2.2.1, m.2.1.2.2.2.2.1, m.2.1.2.2.2.2.2.1, v), m.2.2.1, m.2.2.2.1, m.2.2.2.2.1, m.2.2.2.2.2)
abbrev t_carry (m : ms) (v : Int32) : ms := (m.1, m.2.1, (v, m.2.2.1.2.1, m.2.2.1.2.2.1, m.2.2.1.2.2.2.1, m.2.2.1.2.2.2.2), m.2.2.2.1, m.2.2.2.2.1, m.2.2.2.2.2)
abbrev t_parity (m : ms) (v : Int32) : ms := (m.1, m.2.1, (m.2.2.1.1, v, m.2.2.1.2.2.1, m.2.2.1.2.2.2.1, m.2.2.1.2.2.2.2), m.2.2.2.1, m.2.2.2.2.1, m.2.2.2.2.2)
abbrev t_zero (m : ms) (v : Int32) : ms := (m.1, m.2.1, (m.2.2.1.1, m.2.2.1.2.1, v, m.2.2.1.2.2.2.1, m.2.2.1.2.2.2.2), m.2.2.2.1, m.2.2.2.2.1, m.2.2.2.2.2)
abbrev t_negative (m : ms) (v : Int32) : ms := (m.1, m.2.1, (m.2.2.1.1, m.2.2.1.2.1, m.2.2.1.2.2.1, v, m.2.2.1.2.2.2.2), m.2.2.2.1, m.2.2.2.2.1, m.2.2.2.2.2)
abbrev t_over (m : ms) (v : Int32) : ms := (m.1, m.2.1, (m.2.2.1.1, m.2.2.1.2.1, m.2.2.1.2.2.1, m.2.2.1.2.2.2.1, v), m.2.2.2.1, m.2.2.2.2.1, m.2.2.2.2.2)
abbrev t_registers0 (m : ms) (v : Nat → Int64) : ms := (m.1, m.2.1, m.2.2.1, (v, m.2.2.2.1.2.1, m.2.2.2.1.2.2.1, m.2.2.2.1.2.2.2.1, m.2.2.2.1.2.2.2.2.1, m.2.2.2.1.2.2.2.2.2.1, m.2.2.2.1.2.2.2.2.2.2.1, m.2.2.2.1.2.2.2.2.2.2.2.1, m.2.2.2.1.2.2.2.2.2.2.2.2), m.2.2.2.2.1, m.2.2.2.2.2)
abbrev t_kept0 (m : ms) (v : Nat → Int64) : ms := (m.1, m.2.1, m.2.2.1, (m.2.2.2.1.1, v, m.2.2.2.1.2.2.1, m.2.2.2.1.2.2.2.1, m.2.2.2.1.2.2.2.2.1, m.2.2.2.1.2.2.2.2.2.1, m.2.2.2.1.2.2.2.2.2.2.1, m.2.2.2.1.2.2.2.2.2.2.2.1, m.2.2.2.1.2.2.2.2.2.2.2.2), m.2.2.2.2.1, m.2.2.2.2.2)
abbrev t_ip (m : ms) (v : Int64) : ms := (m.1, m.2.1, m.2.2.1, (m.2.2.2.1.1, m.2.2.2.1.2.1, v, m.2.2.2.1.2.2.2.1, m.2.2.2.1.2.2.2.2.1, m.2.2.2.1.2.2.2.2.2.1, m.2.2.2.1.2.2.2.2.2.2.1, m.2.2.2.1.2.2.2.2.2.2.2.1, m.2.2.2.1.2.2.2.2.2.2.2.2), m.2.2.2.2.1, m.2.2.2.2.2)
abbrev t_stopValue (m : ms) (v : Int64) : ms := (m.1, m.2.1, m.2.2.1, (m.2.2.2.1.1, m.2.2.2.1.2.1, m.2.2.2.1.2.2.1, v, m.2.2.2.1.2.2.2.2.1, m.2.2.2.1.2.2.2.2.2.1, m.2.2.2.1.2.2.2.2.2.2.1, m.2.2.2.1.2.2.2.2.2.2.2.1, m.2.2.2.1.2.2.2.2.2.2.2.2), m.2.2.2.2.1, m.2.2.2.2.2)
abbrev t_stepsDone (m : ms) (v : Int64) : ms := (m.1, m.2.1, m.2.2.1, (m.2.2.2.1.1, m.2.2.2.1.2.1, m.2.2.2.1.2.2.1, m.2.2.2.1.2.2.2.1, v, m.2.2.2.1.2.2.2.2.2.1, m.2.2.2.1.2.2.2.2.2.2.1, m.2.2.2.1.2.2.2.2.2.2.2.1, m.2.2.2.1.2.2.2.2.2.2.2.2), m.2.2.2.2.1, m.2.2.2.2.2)
abbrev t_stopKind (m : ms) (v : Int32) : ms := (m.1, m.2.1, m.2.2.1, (m.2.2.2.1.1, m.2.2.2.1.2.1, m.2.2.2.1.2.2.1, m.2.2.2.1.2.2.2.1, m.2.2.2.1.2.2.2.2.1, v, m.2.2.2.1.2.2.2.2.2.2.1, m.2.2.2.1.2.2.2.2.2.2.2.1, m.2.2.2.1.2.2.2.2.2.2.2.2), m.2.2.2.2.1, m.2.2.2.2.2)
abbrev t_halt (m : ms) (v : Int32) : ms := (m.1, m.2.1, m.2.2.1, (m.2.2.2.1.1, m.2.2.2.1.2.1, m.2.2.2.1.2.2.1, m.2.2.2.1.2.2.2.1, m.2.2.2.1.2.2.2.2.1, m.2.2.2.1.2.2.2.2.2.1, v, m.2.2.2.1.2.2.2.2.2.2.2.1, m.2.2.2.1.2.2.2.2.2.2.2.2), m.2.2.2.2.1, m.2.2.2.2.2)
abbrev t_haltValue (m : ms) (v : Int64) : ms := (m.1, m.2.1, m.2.2.1, (m.2.2.2.1.1, m.2.2.2.1.2.1, m.2.2.2.1.2.2.1, m.2.2.2.1.2.2.2.1, m.2.2.2.1.2.2.2.2.1, m.2.2.2.1.2.2.2.2.2.1, m.2.2.2.1.2.2.2.2.2.2.1, v, m.2.2.2.1.2.2.2.2.2.2.2.2), m.2.2.2.2.1, m.2.2.2.2.2)
abbrev t_operandAt (m : ms) (v : Int64) : ms := (m.1, m.2.1, m.2.2.1, (m.2.2.2.1.1, m.2.2.2.1.2.1, m.2.2.2.1.2.2.1, m.2.2.2.1.2.2.2.1, m.2.2.2.1.2.2.2.2.1, m.2.2.2.1.2.2.2.2.2.1, m.2.2.2.1.2.2.2.2.2.2.1, m.2.2.2.1.2.2.2.2.2.2.2.1, v), m.2.2.2.2.1, m.2.2.2.2.2)
abbrev t_thrown (m : ms) (v : Int32) : ms := (m.1, m.2.1, m.2.2.1, m.2.2.2.1, (v, m.2.2.2.2.1.2.1, m.2.2.2.2.1.2.2.1, m.2.2.2.2.1.2.2.2.1, m.2.2.2.2.1.2.2.2.2), m.2.2.2.2.2)
abbrev t_givenSize (m : ms) (v : Int32) : ms := (m.1, m.2.1, m.2.2.1, m.2.2.2.1, (m.2.2.2.2.1.1, v, m.2.2.2.2.1.2.2.1, m.2.2.2.2.1.2.2.2.1, m.2.2.2.2.1.2.2.2.2), m.2.2.2.2.2)
abbrev t_shownSize (m : ms) (v : Int32) : ms := (m.1, m.2.1, m.2.2.1, m.2.2.2.1, (m.2.2.2.2.1.1, m.2.2.2.2.1.2.1, v, m.2.2.2.2.1.2.2.2.1, m.2.2.2.2.1.2.2.2.2), m.2.2.2.2.2)
abbrev t_given (m : ms) (v : Nat → Int32) : ms := (m.1, m.2.1, m.2.2.1, m.2.2.2.1, (m.2.2.2.2.1.1, m.2.2.2.2.1.2.1, m.2.2.2.2.1.2.2.1, v, m.2.2.2.2.1.2.2.2.2), m.2.2.2.2.2)
abbrev t_shown (m : ms) (v : Nat → Int32) : ms := (m.1, m.2.1, m.2.2.1, m.2.2.2.1, (m.2.2.2.2.1.1, m.2.2.2.2.1.2.1, m.2.2.2.2.1.2.2.1, m.2.2.2.2.1.2.2.2.1, v), m.2.2.2.2.2)
abbrev t_filled (m : ms) (v : Nat → Int32) : ms := (m.1, m.2.1, m.2.2.1, m.2.2.2.1, m.2.2.2.2.1, (v, m.2.2.2.2.2.2.1, m.2.2.2.2.2.2.2.1, m.2.2.2.2.2.2.2.2))
abbrev t_memory (m : ms) (v : Nat → Int32) : ms := (m.1, m.2.1, m.2.2.1, m.2.2.2.1, m.2.2.2.2.1, (m.2.2.2.2.2.1, v, m.2.2.2.2.2.2.2.1, m.2.2.2.2.2.2.2.2))
abbrev t_heap (m : ms) (v : Nat → Int32) : ms := (m.1, m.2.1, m.2.2.1, m.2.2.2.1, m.2.2.2.2.1, (m.2.2.2.2.2.1, m.2.2.2.2.2.2.1, v, m.2.2.2.2.2.2.2.2))
abbrev t_stack (m : ms) (v : Nat → Int32) : ms := (m.1, m.2.1, m.2.2.1, m.2.2.2.1, m.2.2.2.2.1, (m.2.2.2.2.2.1, m.2.2.2.2.2.2.1, m.2.2.2.2.2.2.2.1, v))
def MC (m : ms) : am_H := [.inr (12, [.int (q_thrown m), .ref 25, .ref 26, .ref 27, .ref 28, .ref 29, .ref 30, .int (q_end m), .int (q_textEnd m), .int (q_rodataBegin m), .int (q_rodataEnd m), .int (q_dataBegin m), .int (q_dataEnd m), .int (q_heapSize m), .int (q_givenSize m), .int (q_shownSize m), .ref 31, .ref 32, .long (q_ip m), .long (q_stopValue m), .long (q_stepsDone m), .int (q_carry m), .int (q_parity m), .int (q_zero m), .int (q_negative m), .int (q_over m), .int (q_stopKind m), .int (q_halt m), .long (q_haltValue m), .long (q_operandAt m), .int (q_op m), .int (q_width m), .int (q_condition m), .int (q_base m), .int (q_index m), .int (q_scale m), .int (q_displacement m), .int (q_length m), .long (q_number m), .ref 33, .ref 34]), .inl (1, 262144, .inl (q_filled m)), .inl (1, 262144, .inl (q_memory m)), .inl (1, 65536, .inl (q_heap m)), .inl (1, 65536, .inl (q_stack m)), .inl (1, 65536, .inl (q_given m)), .inl (1, 65536, .inl (q_shown m)), .inl (3, 16, .inr (.inl (q_registers0 m))), .inl (3, 16, .inr (.inl (q_kept0 m))), .inl (0, 3, .inl (q_kinds m)), .inl (0, 3, .inl (q_places m))]
def K (m : ms) : Prop := b01 (q_carry m) ∧ b01 (q_parity m) ∧ b01 (q_zero m) ∧ b01 (q_negative m) ∧ b01 (q_over m) ∧ (∀ i, i < 3 → am_in (q_places m i) 16 = true) ∧ (0 ≤ (q_end m).toInt ∧ (q_end m).toInt ≤ 262144) ∧ (0 ≤ (q_heapSize m).toInt ∧ (q_heapSize m).toInt ≤ 65536) ∧ (0 ≤ (q_givenSize m).toInt ∧ (q_givenSize m).toInt ≤ 65536) ∧ (0 ≤ (q_shownSize m).toInt ∧ (q_shownSize m).toInt ≤ 65536)
theorem K_carry {m : ms} {v : Int32} (h : K m) (hv : b01 v) : K (t_carry m v) := ⟨hv, h.2⟩
theorem K_parity {m : ms} {v : Int32} (h : K m) (hv : b01 v) : K (t_parity m v) := ⟨h.1, hv, h.2.2⟩
theorem K_zero {m : ms} {v : Int32} (h : K m) (hv : b01 v) : K (t_zero m v) := ⟨h.1, h.2.1, hv, h.2.2.2⟩
theorem K_negative {m : ms} {v : Int32} (h : K m) (hv : b01 v) : K (t_negative m v) := ⟨h.1, h.2.1, h.2.2.1, hv, h.2.2.2.2⟩
theorem K_over {m : ms} {v : Int32} (h : K m) (hv : b01 v) : K (t_over m v) := ⟨h.1, h.2.1, h.2.2.1, h.2.2.2.1, hv, h.2.2.2.2.2⟩
theorem K_places {m : ms} {k v : Int32} (h : K m) (hv : am_in v 16 = true) : K (t_places m (upd (q_places m) k.toNatClampNeg v)) := ⟨h.1, h.2.1, h.2.2.1, h.2.2.2.1, h.2.2.2.2.1, fun i hi => by
  show am_in (upd (q_places m) k.toNatClampNeg v i) 16 = true
  unfold upd
  split
  · exact hv
  · exact h.2.2.2.2.2.1 i hi, h.2.2.2.2.2.2⟩
theorem K_place {m : ms} {k : Int32} (h : K m) (hk : am_in k 3 = true) : am_in (q_places m k.toNatClampNeg) 16 = true := h.2.2.2.2.2.1 _ (am_in_lt hk)
/-- what a method keeps: tier 1 the instruction's fields, tier 2 the memory's rows too -/
def RL (t : Nat) (m m' : ms) : Prop := (1 ≤ t → m'.1 = m.1) ∧ (2 ≤ t → m'.2.1 = m.2.1)
theorem RLr {t : Nat} {m : ms} : RL t m m := ⟨fun _ => rfl, fun _ => rfl⟩
theorem RL0 {m m' : ms} : RL 0 m m' := ⟨fun h => absurd h (by decide), fun h => absurd h (by decide)⟩
theorem RLt {t u : Nat} {a b c : ms} (h : RL t a b) (h' : RL u b c) (hu : t ≤ u := by decide) : RL t a c := ⟨fun ht => (h'.1 (Nat.le_trans ht hu)).trans (h.1 ht), fun ht => (h'.2 (Nat.le_trans ht hu)).trans (h.2 ht)⟩
theorem RLd {m m1 m2 : ms} (h : RL 1 m m1) (e : m2.1 = m1.1) : RL 1 m m2 := ⟨fun _ => e.trans (h.1 (by decide)), fun h => absurd h (by decide)⟩
def NV (t : Nat) (m : ms) (s : cs) (D : List pgT) (v : Option Value) (h : am_H) : Prop := ∃ m', K m' ∧ RL t m m' ∧ h = HH s (MC m') D ∧ v = none
def NI (t : Nat) (m : ms) (s : cs) (D : List pgT) (v : Option Value) (h : am_H) : Prop := ∃ m', K m' ∧ RL t m m' ∧ h = HH s (MC m') D ∧ ∃ x : Int32, v = some (.int x)
def NZ (t : Nat) (m : ms) (s : cs) (D : List pgT) (v : Option Value) (h : am_H) : Prop := ∃ m', K m' ∧ RL t m m' ∧ h = HH s (MC m') D ∧ ∃ x : Int32, v = some (.int x) ∧ b01 x
def NJ (t : Nat) (m : ms) (s : cs) (D : List pgT) (v : Option Value) (h : am_H) : Prop := ∃ m', K m' ∧ RL t m m' ∧ h = HH s (MC m') D ∧ ∃ x : Int64, v = some (.long x)
