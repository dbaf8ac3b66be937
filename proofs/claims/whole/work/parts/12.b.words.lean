theorem m_2 : (Cond.selects "MovingGuest" ⟨"MovingGuest", "retireNext", "(LMovingGuest$Host;)Z"⟩ ⟨"MovingGuest", "retireNext", "(LMovingGuest$Host;)Z"⟩) ∈ wAll := List.mem_of_getElem? (i := 2) (by decide +kernel)
theorem m_265 : (Cond.methodLink "MovingGuest" 84 ⟨"MovingGuest", "retireNext", "(LMovingGuest$Host;)Z"⟩) ∈ wAll := List.mem_of_getElem? (i := 265) (by decide +kernel)
theorem m_266 : (Cond.instanceMethod ⟨"MovingGuest", "retireNext", "(LMovingGuest$Host;)Z"⟩) ∈ wAll := List.mem_of_getElem? (i := 266) (by decide +kernel)
theorem m_267 : (Cond.code ⟨"MovingGuest", "retireNext", "(LMovingGuest$Host;)Z"⟩ prog_1_method_30_code 4 (some .boolean)) ∈ wAll := List.mem_of_getElem? (i := 267) (by decide +kernel)
