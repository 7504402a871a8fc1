theorem kc_124 : iv (124 : Int32) 124 124 := ⟨by decide, by decide⟩
