theorem m_522 : (Cond.methodLink "MovingGuestModel" 1 ⟨"java/lang/Object", "<init>", "()V"⟩) ∈ wAll := List.mem_of_getElem? (i := 522) (by decide +kernel)
theorem m_617 : (Cond.arrayClass .boolean) ∈ wAll := List.mem_of_getElem? (i := 617) (by decide +kernel)
