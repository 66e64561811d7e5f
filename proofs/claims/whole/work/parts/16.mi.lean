section MTH
def mX11_goesInto : fMt := (yX11_goesInto, cX11_goesInto, 8, some .boolean, { frames := 2, cells := 0, slots := 0, locals := 80 })
theorem miX11_goesInto : fMv mX11_goesInto 4 := ⟨⟨fM 1462 (by decide +kernel) rfl, fM 101 (by decide +kernel) rfl, ⟨by decide +kernel, by decide +kernel⟩, by decide +kernel⟩, fM 1461 (by decide +kernel) rfl, fM 61 (by decide +kernel) rfl⟩
def f_X11_goesInto (a1 : Int) (a2 : Int) (a3 : Int) (a4 : Int) (M : fMem) : Option (Int × fMem) := ((f_X11_bounds a1 a2 a3 M).bind fun (r1 : fMem) => ((f_X11_fallsIn a1 a4 r1).bind fun (r3 : Int × fMem) => ((f_X11_isFoundAt a1 r3.1 a4 r3.2).bind fun (r5 : Int × fMem) => (if 0 ≤ r5.2 418 22 ∧ r5.2 418 22 < 19 then (if 0 ≤ (mset r5.2 430 (r5.2 418 22) a1) 418 22 ∧ (mset r5.2 430 (r5.2 418 22) a1) 418 22 < 19 then (if 0 ≤ (mset (mset r5.2 430 (r5.2 418 22) a1) 431 ((mset r5.2 430 (r5.2 418 22) a1) 418 22) ((mset r5.2 430 (r5.2 418 22) a1) 418 14)) 418 22 ∧ (mset (mset r5.2 430 (r5.2 418 22) a1) 431 ((mset r5.2 430 (r5.2 418 22) a1) 418 22) ((mset r5.2 430 (r5.2 418 22) a1) 418 14)) 418 22 < 19 then (if 0 ≤ (mset (mset (mset r5.2 430 (r5.2 418 22) a1) 431 ((mset r5.2 430 (r5.2 418 22) a1) 418 22) ((mset r5.2 430 (r5.2 418 22) a1) 418 14)) 432 ((mset (mset r5.2 430 (r5.2 418 22) a1) 431 ((mset r5.2 430 (r5.2 418 22) a1) 418 22) ((mset r5.2 430 (r5.2 418 22) a1) 418 14)) 418 22) ((mset (mset r5.2 430 (r5.2 418 22) a1) 431 ((mset r5.2 430 (r5.2 418 22) a1) 418 22) ((mset r5.2 430 (r5.2 418 22) a1) 418 14)) 418 15)) 418 22 ∧ (mset (mset (mset r5.2 430 (r5.2 418 22) a1) 431 ((mset r5.2 430 (r5.2 418 22) a1) 418 22) ((mset r5.2 430 (r5.2 418 22) a1) 418 14)) 432 ((mset (mset r5.2 430 (r5.2 418 22) a1) 431 ((mset r5.2 430 (r5.2 418 22) a1) 418 22) ((mset r5.2 430 (r5.2 418 22) a1) 418 14)) 418 22) ((mset (mset r5.2 430 (r5.2 418 22) a1) 431 ((mset r5.2 430 (r5.2 418 22) a1) 418 22) ((mset r5.2 430 (r5.2 418 22) a1) 418 14)) 418 15)) 418 22 < 19 then (if 0 ≤ (mset (mset (mset (mset r5.2 430 (r5.2 418 22) a1) 431 ((mset r5.2 430 (r5.2 418 22) a1) 418 22) ((mset r5.2 430 (r5.2 418 22) a1) 418 14)) 432 ((mset (mset r5.2 430 (r5.2 418 22) a1) 431 ((mset r5.2 430 (r5.2 418 22) a1) 418 22) ((mset r5.2 430 (r5.2 418 22) a1) 418 14)) 418 22) ((mset (mset r5.2 430 (r5.2 418 22) a1) 431 ((mset r5.2 430 (r5.2 418 22) a1) 418 22) ((mset r5.2 430 (r5.2 418 22) a1) 418 14)) 418 15)) 433 ((mset (mset (mset r5.2 430 (r5.2 418 22) a1) 431 ((mset r5.2 430 (r5.2 418 22) a1) 418 22) ((mset r5.2 430 (r5.2 418 22) a1) 418 14)) 432 ((mset (mset r5.2 430 (r5.2 418 22) a1) 431 ((mset r5.2 430 (r5.2 418 22) a1) 418 22) ((mset r5.2 430 (r5.2 418 22) a1) 418 14)) 418 22) ((mset (mset r5.2 430 (r5.2 418 22) a1) 431 ((mset r5.2 430 (r5.2 418 22) a1) 418 22) ((mset r5.2 430 (r5.2 418 22) a1) 418 14)) 418 15)) 418 22) r3.1) 418 22 ∧ (mset (mset (mset (mset r5.2 430 (r5.2 418 22) a1) 431 ((mset r5.2 430 (r5.2 418 22) a1) 418 22) ((mset r5.2 430 (r5.2 418 22) a1) 418 14)) 432 ((mset (mset r5.2 430 (r5.2 418 22) a1) 431 ((mset r5.2 430 (r5.2 418 22) a1) 418 22) ((mset r5.2 430 (r5.2 418 22) a1) 418 14)) 418 22) ((mset (mset r5.2 430 (r5.2 418 22) a1) 431 ((mset r5.2 430 (r5.2 418 22) a1) 418 22) ((mset r5.2 430 (r5.2 418 22) a1) 418 14)) 418 15)) 433 ((mset (mset (mset r5.2 430 (r5.2 418 22) a1) 431 ((mset r5.2 430 (r5.2 418 22) a1) 418 22) ((mset r5.2 430 (r5.2 418 22) a1) 418 14)) 432 ((mset (mset r5.2 430 (r5.2 418 22) a1) 431 ((mset r5.2 430 (r5.2 418 22) a1) 418 22) ((mset r5.2 430 (r5.2 418 22) a1) 418 14)) 418 22) ((mset (mset r5.2 430 (r5.2 418 22) a1) 431 ((mset r5.2 430 (r5.2 418 22) a1) 418 22) ((mset r5.2 430 (r5.2 418 22) a1) 418 14)) 418 15)) 418 22) r3.1) 418 22 < 19 then (if -2147483648 ≤ ((mset (mset (mset (mset r5.2 430 (r5.2 418 22) a1) 431 ((mset r5.2 430 (r5.2 418 22) a1) 418 22) ((mset r5.2 430 (r5.2 418 22) a1) 418 14)) 432 ((mset (mset r5.2 430 (r5.2 418 22) a1) 431 ((mset r5.2 430 (r5.2 418 22) a1) 418 22) ((mset r5.2 430 (r5.2 418 22) a1) 418 14)) 418 22) ((mset (mset r5.2 430 (r5.2 418 22) a1) 431 ((mset r5.2 430 (r5.2 418 22) a1) 418 22) ((mset r5.2 430 (r5.2 418 22) a1) 418 14)) 418 15)) 433 ((mset (mset (mset r5.2 430 (r5.2 418 22) a1) 431 ((mset r5.2 430 (r5.2 418 22) a1) 418 22) ((mset r5.2 430 (r5.2 418 22) a1) 418 14)) 432 ((mset (mset r5.2 430 (r5.2 418 22) a1) 431 ((mset r5.2 430 (r5.2 418 22) a1) 418 22) ((mset r5.2 430 (r5.2 418 22) a1) 418 14)) 418 22) ((mset (mset r5.2 430 (r5.2 418 22) a1) 431 ((mset r5.2 430 (r5.2 418 22) a1) 418 22) ((mset r5.2 430 (r5.2 418 22) a1) 418 14)) 418 15)) 418 22) r3.1) 418 16) - (M 418 16) ∧ ((mset (mset (mset (mset r5.2 430 (r5.2 418 22) a1) 431 ((mset r5.2 430 (r5.2 418 22) a1) 418 22) ((mset r5.2 430 (r5.2 418 22) a1) 418 14)) 432 ((mset (mset r5.2 430 (r5.2 418 22) a1) 431 ((mset r5.2 430 (r5.2 418 22) a1) 418 22) ((mset r5.2 430 (r5.2 418 22) a1) 418 14)) 418 22) ((mset (mset r5.2 430 (r5.2 418 22) a1) 431 ((mset r5.2 430 (r5.2 418 22) a1) 418 22) ((mset r5.2 430 (r5.2 418 22) a1) 418 14)) 418 15)) 433 ((mset (mset (mset r5.2 430 (r5.2 418 22) a1) 431 ((mset r5.2 430 (r5.2 418 22) a1) 418 22) ((mset r5.2 430 (r5.2 418 22) a1) 418 14)) 432 ((mset (mset r5.2 430 (r5.2 418 22) a1) 431 ((mset r5.2 430 (r5.2 418 22) a1) 418 22) ((mset r5.2 430 (r5.2 418 22) a1) 418 14)) 418 22) ((mset (mset r5.2 430 (r5.2 418 22) a1) 431 ((mset r5.2 430 (r5.2 418 22) a1) 418 22) ((mset r5.2 430 (r5.2 418 22) a1) 418 14)) 418 15)) 418 22) r3.1) 418 16) - (M 418 16) < 2147483648 then (if -2147483648 ≤ ((mset (mset (mset (mset (mset r5.2 430 (r5.2 418 22) a1) 431 ((mset r5.2 430 (r5.2 418 22) a1) 418 22) ((mset r5.2 430 (r5.2 418 22) a1) 418 14)) 432 ((mset (mset r5.2 430 (r5.2 418 22) a1) 431 ((mset r5.2 430 (r5.2 418 22) a1) 418 22) ((mset r5.2 430 (r5.2 418 22) a1) 418 14)) 418 22) ((mset (mset r5.2 430 (r5.2 418 22) a1) 431 ((mset r5.2 430 (r5.2 418 22) a1) 418 22) ((mset r5.2 430 (r5.2 418 22) a1) 418 14)) 418 15)) 433 ((mset (mset (mset r5.2 430 (r5.2 418 22) a1) 431 ((mset r5.2 430 (r5.2 418 22) a1) 418 22) ((mset r5.2 430 (r5.2 418 22) a1) 418 14)) 432 ((mset (mset r5.2 430 (r5.2 418 22) a1) 431 ((mset r5.2 430 (r5.2 418 22) a1) 418 22) ((mset r5.2 430 (r5.2 418 22) a1) 418 14)) 418 22) ((mset (mset r5.2 430 (r5.2 418 22) a1) 431 ((mset r5.2 430 (r5.2 418 22) a1) 418 22) ((mset r5.2 430 (r5.2 418 22) a1) 418 14)) 418 15)) 418 22) r3.1) 434 ((mset (mset (mset (mset r5.2 430 (r5.2 418 22) a1) 431 ((mset r5.2 430 (r5.2 418 22) a1) 418 22) ((mset r5.2 430 (r5.2 418 22) a1) 418 14)) 432 ((mset (mset r5.2 430 (r5.2 418 22) a1) 431 ((mset r5.2 430 (r5.2 418 22) a1) 418 22) ((mset r5.2 430 (r5.2 418 22) a1) 418 14)) 418 22) ((mset (mset r5.2 430 (r5.2 418 22) a1) 431 ((mset r5.2 430 (r5.2 418 22) a1) 418 22) ((mset r5.2 430 (r5.2 418 22) a1) 418 14)) 418 15)) 433 ((mset (mset (mset r5.2 430 (r5.2 418 22) a1) 431 ((mset r5.2 430 (r5.2 418 22) a1) 418 22) ((mset r5.2 430 (r5.2 418 22) a1) 418 14)) 432 ((mset (mset r5.2 430 (r5.2 418 22) a1) 431 ((mset r5.2 430 (r5.2 418 22) a1) 418 22) ((mset r5.2 430 (r5.2 418 22) a1) 418 14)) 418 22) ((mset (mset r5.2 430 (r5.2 418 22) a1) 431 ((mset r5.2 430 (r5.2 418 22) a1) 418 22) ((mset r5.2 430 (r5.2 418 22) a1) 418 14)) 418 15)) 418 22) r3.1) 418 22) (((mset (mset (mset (mset r5.2 430 (r5.2 418 22) a1) 431 ((mset r5.2 430 (r5.2 418 22) a1) 418 22) ((mset r5.2 430 (r5.2 418 22) a1) 418 14)) 432 ((mset (mset r5.2 430 (r5.2 418 22) a1) 431 ((mset r5.2 430 (r5.2 418 22) a1) 418 22) ((mset r5.2 430 (r5.2 418 22) a1) 418 14)) 418 22) ((mset (mset r5.2 430 (r5.2 418 22) a1) 431 ((mset r5.2 430 (r5.2 418 22) a1) 418 22) ((mset r5.2 430 (r5.2 418 22) a1) 418 14)) 418 15)) 433 ((mset (mset (mset r5.2 430 (r5.2 418 22) a1) 431 ((mset r5.2 430 (r5.2 418 22) a1) 418 22) ((mset r5.2 430 (r5.2 418 22) a1) 418 14)) 432 ((mset (mset r5.2 430 (r5.2 418 22) a1) 431 ((mset r5.2 430 (r5.2 418 22) a1) 418 22) ((mset r5.2 430 (r5.2 418 22) a1) 418 14)) 418 22) ((mset (mset r5.2 430 (r5.2 418 22) a1) 431 ((mset r5.2 430 (r5.2 418 22) a1) 418 22) ((mset r5.2 430 (r5.2 418 22) a1) 418 14)) 418 15)) 418 22) r3.1) 418 16) - (M 418 16))) 418 22) + 1 ∧ ((mset (mset (mset (mset (mset r5.2 430 (r5.2 418 22) a1) 431 ((mset r5.2 430 (r5.2 418 22) a1) 418 22) ((mset r5.2 430 (r5.2 418 22) a1) 418 14)) 432 ((mset (mset r5.2 430 (r5.2 418 22) a1) 431 ((mset r5.2 430 (r5.2 418 22) a1) 418 22) ((mset r5.2 430 (r5.2 418 22) a1) 418 14)) 418 22) ((mset (mset r5.2 430 (r5.2 418 22) a1) 431 ((mset r5.2 430 (r5.2 418 22) a1) 418 22) ((mset r5.2 430 (r5.2 418 22) a1) 418 14)) 418 15)) 433 ((mset (mset (mset r5.2 430 (r5.2 418 22) a1) 431 ((mset r5.2 430 (r5.2 418 22) a1) 418 22) ((mset r5.2 430 (r5.2 418 22) a1) 418 14)) 432 ((mset (mset r5.2 430 (r5.2 418 22) a1) 431 ((mset r5.2 430 (r5.2 418 22) a1) 418 22) ((mset r5.2 430 (r5.2 418 22) a1) 418 14)) 418 22) ((mset (mset r5.2 430 (r5.2 418 22) a1) 431 ((mset r5.2 430 (r5.2 418 22) a1) 418 22) ((mset r5.2 430 (r5.2 418 22) a1) 418 14)) 418 15)) 418 22) r3.1) 434 ((mset (mset (mset (mset r5.2 430 (r5.2 418 22) a1) 431 ((mset r5.2 430 (r5.2 418 22) a1) 418 22) ((mset r5.2 430 (r5.2 418 22) a1) 418 14)) 432 ((mset (mset r5.2 430 (r5.2 418 22) a1) 431 ((mset r5.2 430 (r5.2 418 22) a1) 418 22) ((mset r5.2 430 (r5.2 418 22) a1) 418 14)) 418 22) ((mset (mset r5.2 430 (r5.2 418 22) a1) 431 ((mset r5.2 430 (r5.2 418 22) a1) 418 22) ((mset r5.2 430 (r5.2 418 22) a1) 418 14)) 418 15)) 433 ((mset (mset (mset r5.2 430 (r5.2 418 22) a1) 431 ((mset r5.2 430 (r5.2 418 22) a1) 418 22) ((mset r5.2 430 (r5.2 418 22) a1) 418 14)) 432 ((mset (mset r5.2 430 (r5.2 418 22) a1) 431 ((mset r5.2 430 (r5.2 418 22) a1) 418 22) ((mset r5.2 430 (r5.2 418 22) a1) 418 14)) 418 22) ((mset (mset r5.2 430 (r5.2 418 22) a1) 431 ((mset r5.2 430 (r5.2 418 22) a1) 418 22) ((mset r5.2 430 (r5.2 418 22) a1) 418 14)) 418 15)) 418 22) r3.1) 418 22) (((mset (mset (mset (mset r5.2 430 (r5.2 418 22) a1) 431 ((mset r5.2 430 (r5.2 418 22) a1) 418 22) ((mset r5.2 430 (r5.2 418 22) a1) 418 14)) 432 ((mset (mset r5.2 430 (r5.2 418 22) a1) 431 ((mset r5.2 430 (r5.2 418 22) a1) 418 22) ((mset r5.2 430 (r5.2 418 22) a1) 418 14)) 418 22) ((mset (mset r5.2 430 (r5.2 418 22) a1) 431 ((mset r5.2 430 (r5.2 418 22) a1) 418 22) ((mset r5.2 430 (r5.2 418 22) a1) 418 14)) 418 15)) 433 ((mset (mset (mset r5.2 430 (r5.2 418 22) a1) 431 ((mset r5.2 430 (r5.2 418 22) a1) 418 22) ((mset r5.2 430 (r5.2 418 22) a1) 418 14)) 432 ((mset (mset r5.2 430 (r5.2 418 22) a1) 431 ((mset r5.2 430 (r5.2 418 22) a1) 418 22) ((mset r5.2 430 (r5.2 418 22) a1) 418 14)) 418 22) ((mset (mset r5.2 430 (r5.2 418 22) a1) 431 ((mset r5.2 430 (r5.2 418 22) a1) 418 22) ((mset r5.2 430 (r5.2 418 22) a1) 418 14)) 418 15)) 418 22) r3.1) 418 16) - (M 418 16))) 418 22) + 1 < 2147483648 then some (r5.1, (mset (mset (mset (mset (mset (mset r5.2 430 (r5.2 418 22) a1) 431 ((mset r5.2 430 (r5.2 418 22) a1) 418 22) ((mset r5.2 430 (r5.2 418 22) a1) 418 14)) 432 ((mset (mset r5.2 430 (r5.2 418 22) a1) 431 ((mset r5.2 430 (r5.2 418 22) a1) 418 22) ((mset r5.2 430 (r5.2 418 22) a1) 418 14)) 418 22) ((mset (mset r5.2 430 (r5.2 418 22) a1) 431 ((mset r5.2 430 (r5.2 418 22) a1) 418 22) ((mset r5.2 430 (r5.2 418 22) a1) 418 14)) 418 15)) 433 ((mset (mset (mset r5.2 430 (r5.2 418 22) a1) 431 ((mset r5.2 430 (r5.2 418 22) a1) 418 22) ((mset r5.2 430 (r5.2 418 22) a1) 418 14)) 432 ((mset (mset r5.2 430 (r5.2 418 22) a1) 431 ((mset r5.2 430 (r5.2 418 22) a1) 418 22) ((mset r5.2 430 (r5.2 418 22) a1) 418 14)) 418 22) ((mset (mset r5.2 430 (r5.2 418 22) a1) 431 ((mset r5.2 430 (r5.2 418 22) a1) 418 22) ((mset r5.2 430 (r5.2 418 22) a1) 418 14)) 418 15)) 418 22) r3.1) 434 ((mset (mset (mset (mset r5.2 430 (r5.2 418 22) a1) 431 ((mset r5.2 430 (r5.2 418 22) a1) 418 22) ((mset r5.2 430 (r5.2 418 22) a1) 418 14)) 432 ((mset (mset r5.2 430 (r5.2 418 22) a1) 431 ((mset r5.2 430 (r5.2 418 22) a1) 418 22) ((mset r5.2 430 (r5.2 418 22) a1) 418 14)) 418 22) ((mset (mset r5.2 430 (r5.2 418 22) a1) 431 ((mset r5.2 430 (r5.2 418 22) a1) 418 22) ((mset r5.2 430 (r5.2 418 22) a1) 418 14)) 418 15)) 433 ((mset (mset (mset r5.2 430 (r5.2 418 22) a1) 431 ((mset r5.2 430 (r5.2 418 22) a1) 418 22) ((mset r5.2 430 (r5.2 418 22) a1) 418 14)) 432 ((mset (mset r5.2 430 (r5.2 418 22) a1) 431 ((mset r5.2 430 (r5.2 418 22) a1) 418 22) ((mset r5.2 430 (r5.2 418 22) a1) 418 14)) 418 22) ((mset (mset r5.2 430 (r5.2 418 22) a1) 431 ((mset r5.2 430 (r5.2 418 22) a1) 418 22) ((mset r5.2 430 (r5.2 418 22) a1) 418 14)) 418 15)) 418 22) r3.1) 418 22) (((mset (mset (mset (mset r5.2 430 (r5.2 418 22) a1) 431 ((mset r5.2 430 (r5.2 418 22) a1) 418 22) ((mset r5.2 430 (r5.2 418 22) a1) 418 14)) 432 ((mset (mset r5.2 430 (r5.2 418 22) a1) 431 ((mset r5.2 430 (r5.2 418 22) a1) 418 22) ((mset r5.2 430 (r5.2 418 22) a1) 418 14)) 418 22) ((mset (mset r5.2 430 (r5.2 418 22) a1) 431 ((mset r5.2 430 (r5.2 418 22) a1) 418 22) ((mset r5.2 430 (r5.2 418 22) a1) 418 14)) 418 15)) 433 ((mset (mset (mset r5.2 430 (r5.2 418 22) a1) 431 ((mset r5.2 430 (r5.2 418 22) a1) 418 22) ((mset r5.2 430 (r5.2 418 22) a1) 418 14)) 432 ((mset (mset r5.2 430 (r5.2 418 22) a1) 431 ((mset r5.2 430 (r5.2 418 22) a1) 418 22) ((mset r5.2 430 (r5.2 418 22) a1) 418 14)) 418 22) ((mset (mset r5.2 430 (r5.2 418 22) a1) 431 ((mset r5.2 430 (r5.2 418 22) a1) 418 22) ((mset r5.2 430 (r5.2 418 22) a1) 418 14)) 418 15)) 418 22) r3.1) 418 16) - (M 418 16))) 418 22 (((mset (mset (mset (mset (mset r5.2 430 (r5.2 418 22) a1) 431 ((mset r5.2 430 (r5.2 418 22) a1) 418 22) ((mset r5.2 430 (r5.2 418 22) a1) 418 14)) 432 ((mset (mset r5.2 430 (r5.2 418 22) a1) 431 ((mset r5.2 430 (r5.2 418 22) a1) 418 22) ((mset r5.2 430 (r5.2 418 22) a1) 418 14)) 418 22) ((mset (mset r5.2 430 (r5.2 418 22) a1) 431 ((mset r5.2 430 (r5.2 418 22) a1) 418 22) ((mset r5.2 430 (r5.2 418 22) a1) 418 14)) 418 15)) 433 ((mset (mset (mset r5.2 430 (r5.2 418 22) a1) 431 ((mset r5.2 430 (r5.2 418 22) a1) 418 22) ((mset r5.2 430 (r5.2 418 22) a1) 418 14)) 432 ((mset (mset r5.2 430 (r5.2 418 22) a1) 431 ((mset r5.2 430 (r5.2 418 22) a1) 418 22) ((mset r5.2 430 (r5.2 418 22) a1) 418 14)) 418 22) ((mset (mset r5.2 430 (r5.2 418 22) a1) 431 ((mset r5.2 430 (r5.2 418 22) a1) 418 22) ((mset r5.2 430 (r5.2 418 22) a1) 418 14)) 418 15)) 418 22) r3.1) 434 ((mset (mset (mset (mset r5.2 430 (r5.2 418 22) a1) 431 ((mset r5.2 430 (r5.2 418 22) a1) 418 22) ((mset r5.2 430 (r5.2 418 22) a1) 418 14)) 432 ((mset (mset r5.2 430 (r5.2 418 22) a1) 431 ((mset r5.2 430 (r5.2 418 22) a1) 418 22) ((mset r5.2 430 (r5.2 418 22) a1) 418 14)) 418 22) ((mset (mset r5.2 430 (r5.2 418 22) a1) 431 ((mset r5.2 430 (r5.2 418 22) a1) 418 22) ((mset r5.2 430 (r5.2 418 22) a1) 418 14)) 418 15)) 433 ((mset (mset (mset r5.2 430 (r5.2 418 22) a1) 431 ((mset r5.2 430 (r5.2 418 22) a1) 418 22) ((mset r5.2 430 (r5.2 418 22) a1) 418 14)) 432 ((mset (mset r5.2 430 (r5.2 418 22) a1) 431 ((mset r5.2 430 (r5.2 418 22) a1) 418 22) ((mset r5.2 430 (r5.2 418 22) a1) 418 14)) 418 22) ((mset (mset r5.2 430 (r5.2 418 22) a1) 431 ((mset r5.2 430 (r5.2 418 22) a1) 418 22) ((mset r5.2 430 (r5.2 418 22) a1) 418 14)) 418 15)) 418 22) r3.1) 418 22) (((mset (mset (mset (mset r5.2 430 (r5.2 418 22) a1) 431 ((mset r5.2 430 (r5.2 418 22) a1) 418 22) ((mset r5.2 430 (r5.2 418 22) a1) 418 14)) 432 ((mset (mset r5.2 430 (r5.2 418 22) a1) 431 ((mset r5.2 430 (r5.2 418 22) a1) 418 22) ((mset r5.2 430 (r5.2 418 22) a1) 418 14)) 418 22) ((mset (mset r5.2 430 (r5.2 418 22) a1) 431 ((mset r5.2 430 (r5.2 418 22) a1) 418 22) ((mset r5.2 430 (r5.2 418 22) a1) 418 14)) 418 15)) 433 ((mset (mset (mset r5.2 430 (r5.2 418 22) a1) 431 ((mset r5.2 430 (r5.2 418 22) a1) 418 22) ((mset r5.2 430 (r5.2 418 22) a1) 418 14)) 432 ((mset (mset r5.2 430 (r5.2 418 22) a1) 431 ((mset r5.2 430 (r5.2 418 22) a1) 418 22) ((mset r5.2 430 (r5.2 418 22) a1) 418 14)) 418 22) ((mset (mset r5.2 430 (r5.2 418 22) a1) 431 ((mset r5.2 430 (r5.2 418 22) a1) 418 22) ((mset r5.2 430 (r5.2 418 22) a1) 418 14)) 418 15)) 418 22) r3.1) 418 16) - (M 418 16))) 418 22) + 1))) else none) else none) else none) else none) else none) else none) else none))))
set_option maxRecDepth 100000 in
set_option maxHeartbeats 4000000 in
theorem s_X11_goesInto {G : fG} (hg : gbt G = true) {a1 : Int} (ga1 : rg a1) {a2 : Int} (ga2 : rg a2) {a3 : Int} (ga3 : rg a3) {a4 : Int} (ga4 : rg a4) {M : fMem} {q : Int × fMem} (h : f_X11_goesInto a1 a2 a3 a4 M = some q) : fSp G mX11_goesInto [rv G 418, iv a1, iv a2, iv a3, iv a4] M (rB q.2 q.1) fNo := by
  refine fSp_of (by decide +kernel) (by decide +kernel) (fC1 rfl (fC1 rfl (fC1 rfl (fC1 rfl (fC1 rfl fC0))))) (Nat.le_of_ble_eq_true rfl) ?_
  show fW G mX11_goesInto (fEm G mX11_goesInto (rB q.2 q.1) fNo) 0 0 0 [some (rv G 418), some (iv a1), some (iv a2), some (iv a3), some (iv a4), none, none, none] [] M
  rw [f_X11_goesInto] at h
  refine fW_rg (fun hR => ?_)
  refine fW_aload_n 1 dX11_goesInto_0 rfl rfl ?_
  refine fW_getI 4 16 (ji := 16) hg clX11 rfl (by decide) rfl tc_418 wd_1190 dX11_goesInto_1 rfl ?_
  refine fW_istore 6 (ls' := [some (rv G 418), some (iv a1), some (iv a2), some (iv a3), some (iv a4), some (iv (M 418 16)), none, none]) dX11_goesInto_4 rfl rfl (by decide) ?_
  refine fW_aload_n 7 dX11_goesInto_6 rfl rfl ?_
  refine fW_iload_n 8 dX11_goesInto_7 rfl rfl ?_
  refine fW_iload_n 9 dX11_goesInto_8 rfl rfl ?_
  refine fW_iload_n 10 dX11_goesInto_9 rfl rfl ?_
  obtain ⟨r1, e1, h⟩ := fBd h
  refine fW_cV (fI_V (as := [iv a1, iv a2, iv a3]) (rest := []) miX11_bounds hg clX11 rfl tc_418 wd_1463 (fRoom_of rfl) rfl (Nat.le_of_ble_eq_true rfl) dX11_goesInto_10) (s_X11_bounds hg ga1 ga2 ga3 e1) rfl rfl rfl ?_
  refine fW_rg (fun hR2 => ?_)
  refine fW_aload_n 14 dX11_goesInto_13 rfl rfl ?_
  refine fW_iload_n 15 dX11_goesInto_14 rfl rfl ?_
  refine fW_iload 17 dX11_goesInto_15 rfl rfl ?_
  obtain ⟨r3, e3, h⟩ := fBd h
  refine fW_cP (fI_V (as := [iv a1, iv a4]) (rest := []) miX11_fallsIn hg clX11 rfl tc_418 wd_1471 (fRoom_of rfl) rfl (Nat.le_of_ble_eq_true rfl) dX11_goesInto_17) (s_X11_fallsIn hg ga1 ga4 e3) rfl rfl rfl (fun g3 => ?_)
  refine fW_rg (fun hR4 => ?_)
  refine fW_istore 22 (ls' := [some (rv G 418), some (iv a1), some (iv a2), some (iv a3), some (iv a4), some (iv (M 418 16)), some (iv r3.1), none]) dX11_goesInto_20 rfl rfl (by decide) ?_
  refine fW_aload_n 23 dX11_goesInto_22 rfl rfl ?_
  refine fW_iload_n 24 dX11_goesInto_23 rfl rfl ?_
  refine fW_iload 26 dX11_goesInto_24 rfl rfl ?_
  refine fW_iload 28 dX11_goesInto_26 rfl rfl ?_
  obtain ⟨r5, e5, h⟩ := fBd h
  refine fW_cB (fI_V (as := [iv a1, iv r3.1, iv a4]) (rest := []) miX11_isFoundAt hg clX11 rfl tc_418 wd_1475 (fRoom_of rfl) rfl (Nat.le_of_ble_eq_true rfl) dX11_goesInto_28) (s_X11_isFoundAt hg ga1 g3 ga4 e5) rfl rfl rfl (fun g5 => ?_)
  refine fW_rg (fun hR6 => ?_)
  refine fW_istore 33 (ls' := [some (rv G 418), some (iv a1), some (iv a2), some (iv a3), some (iv a4), some (iv (M 418 16)), some (iv r3.1), some (iv r5.1)]) dX11_goesInto_31 rfl rfl (by decide) ?_
  refine fW_aload_n 34 dX11_goesInto_33 rfl rfl ?_
  refine fW_getR 37 (r := 430) 17 hg clX11 (by decide) rfl tc_418 tf_11_17 wd_1191 dX11_goesInto_34 rfl ?_
  refine fW_aload_n 38 dX11_goesInto_37 rfl rfl ?_
  refine fW_getI 41 22 (ji := 22) hg clX11 rfl (by decide) rfl tc_418 wd_1196 dX11_goesInto_38 rfl ?_
  refine fW_iload_n 42 dX11_goesInto_41 rfl rfl ?_
  obtain ⟨c7, h⟩ := fS h
  refine fW_iast 43 hg tc_430 ⟨c7.1, by rw [show Ln 430 = 19 from rfl]; exact c7.2⟩ ga1 dX11_goesInto_42 rfl ?_
  refine fW_rg (fun hR8 => ?_)
  refine fW_aload_n 44 dX11_goesInto_43 rfl rfl ?_
  refine fW_getR 47 (r := 431) 18 hg clX11 (by decide) rfl tc_418 tf_11_18 wd_1192 dX11_goesInto_44 rfl ?_
  refine fW_aload_n 48 dX11_goesInto_47 rfl rfl ?_
  refine fW_getI 51 22 (ji := 22) hg clX11 rfl (by decide) rfl tc_418 wd_1196 dX11_goesInto_48 rfl ?_
  refine fW_aload_n 52 dX11_goesInto_51 rfl rfl ?_
  refine fW_getI 55 14 (ji := 14) hg clX11 rfl (by decide) rfl tc_418 wd_1188 dX11_goesInto_52 rfl ?_
  obtain ⟨c9, h⟩ := fS h
  refine fW_iast 56 hg tc_431 ⟨c9.1, by rw [show Ln 431 = 19 from rfl]; exact c9.2⟩ (hR8 418 14) dX11_goesInto_55 rfl ?_
  refine fW_rg (fun hR10 => ?_)
  refine fW_aload_n 57 dX11_goesInto_56 rfl rfl ?_
  refine fW_getR 60 (r := 432) 19 hg clX11 (by decide) rfl tc_418 tf_11_19 wd_1193 dX11_goesInto_57 rfl ?_
  refine fW_aload_n 61 dX11_goesInto_60 rfl rfl ?_
  refine fW_getI 64 22 (ji := 22) hg clX11 rfl (by decide) rfl tc_418 wd_1196 dX11_goesInto_61 rfl ?_
  refine fW_aload_n 65 dX11_goesInto_64 rfl rfl ?_
  refine fW_getI 68 15 (ji := 15) hg clX11 rfl (by decide) rfl tc_418 wd_1189 dX11_goesInto_65 rfl ?_
  obtain ⟨c11, h⟩ := fS h
  refine fW_iast 69 hg tc_432 ⟨c11.1, by rw [show Ln 432 = 19 from rfl]; exact c11.2⟩ (hR10 418 15) dX11_goesInto_68 rfl ?_
  refine fW_rg (fun hR12 => ?_)
  refine fW_aload_n 70 dX11_goesInto_69 rfl rfl ?_
  refine fW_getR 73 (r := 433) 20 hg clX11 (by decide) rfl tc_418 tf_11_20 wd_1194 dX11_goesInto_70 rfl ?_
  refine fW_aload_n 74 dX11_goesInto_73 rfl rfl ?_
  refine fW_getI 77 22 (ji := 22) hg clX11 rfl (by decide) rfl tc_418 wd_1196 dX11_goesInto_74 rfl ?_
  refine fW_iload 79 dX11_goesInto_77 rfl rfl ?_
  obtain ⟨c13, h⟩ := fS h
  refine fW_iast 80 hg tc_433 ⟨c13.1, by rw [show Ln 433 = 19 from rfl]; exact c13.2⟩ g3 dX11_goesInto_79 rfl ?_
  refine fW_rg (fun hR14 => ?_)
  refine fW_aload_n 81 dX11_goesInto_80 rfl rfl ?_
  refine fW_getR 84 (r := 434) 21 hg clX11 (by decide) rfl tc_418 tf_11_21 wd_1195 dX11_goesInto_81 rfl ?_
  refine fW_aload_n 85 dX11_goesInto_84 rfl rfl ?_
  refine fW_getI 88 22 (ji := 22) hg clX11 rfl (by decide) rfl tc_418 wd_1196 dX11_goesInto_85 rfl ?_
  refine fW_aload_n 89 dX11_goesInto_88 rfl rfl ?_
  refine fW_getI 92 16 (ji := 16) hg clX11 rfl (by decide) rfl tc_418 wd_1190 dX11_goesInto_89 rfl ?_
  refine fW_iload 94 dX11_goesInto_92 rfl rfl ?_
  refine fW_isub 95 dX11_goesInto_94 rfl ?_
  obtain ⟨c15, h⟩ := fS h
  obtain ⟨c16, h⟩ := fS h
  refine fW_iast 96 hg tc_434 ⟨c15.1, by rw [show Ln 434 = 19 from rfl]; exact c15.2⟩ c16 dX11_goesInto_95 rfl ?_
  refine fW_rg (fun hR17 => ?_)
  refine fW_aload_n 97 dX11_goesInto_96 rfl rfl ?_
  refine fW_dup 98 dX11_goesInto_97 rfl rfl ?_
  refine fW_getI 101 22 (ji := 22) hg clX11 rfl (by decide) rfl tc_418 wd_1196 dX11_goesInto_98 rfl ?_
  refine fW_iconst 102 dX11_goesInto_101 rfl ?_
  refine fW_iadd 103 dX11_goesInto_102 rfl ?_
  obtain ⟨c18, h⟩ := fS h
  refine fW_putI 106 22 (ji := 22) hg clX11 rfl (by decide) rfl rfl rfl tc_418 c18 wd_1196 dX11_goesInto_103 rfl ?_
  refine fW_rg (fun hR19 => ?_)
  refine fW_iload 108 dX11_goesInto_106 rfl rfl ?_
  exact fW_zret rfl g5 (by decide) (by decide) dX11_goesInto_108 (rBI_i h g5)
def mX11_looksFor : fMt := (yX11_looksFor, cX11_looksFor, 8, some .int, { frames := 4, cells := 0, slots := 0, locals := 160 })
theorem miX11_looksFor : fMv mX11_looksFor 1 := ⟨⟨fM 1458 (by decide +kernel) rfl, fM 101 (by decide +kernel) rfl, ⟨by decide +kernel, by decide +kernel⟩, by decide +kernel⟩, fM 1457 (by decide +kernel) rfl, fM 60 (by decide +kernel) rfl⟩
def L_X11_looksFor_30  (k : Int → Int → Int → fMem → Option (Int × fMem)) : Nat → Int → Int → Int → Int → Int → Int → fMem → Option (Int × fMem)
  | 0, _, _, _, _, _, _, _ => none
  | n + 1, v1, v2, v3, v4, v5, v6, M => ((f_X11_shutMany v4 M).bind fun (r4 : Int) => (if r4 ≤ v6 then k v1 v4 v5 M else ((f_X11_byAge v4 v6 M).bind fun (r6 : Int) => ((f_X11_goesInto r6 v2 v3 v1 M).bind fun (r7 : Int × fMem) => (if r7.1 = 0 then (if v6 = 0 then (if 0 ≤ (r7.2 418 22) - 1 ∧ (r7.2 418 22) - 1 < 19 then L_X11_looksFor_30  k n v1 v2 v3 v4 (r7.2 433 ((r7.2 418 22) - 1)) (v6 + 1) r7.2 else none) else L_X11_looksFor_30  k n v1 v2 v3 v4 v5 (v6 + 1) r7.2) else some (r7.2 418 16, r7.2))))))
set_option maxRecDepth 100000 in
set_option maxHeartbeats 4000000 in
theorem l_X11_looksFor_30 {G : fG} (hg : gbt G = true)  {q : Int × fMem} {k : Int → Int → Int → fMem → Option (Int × fMem)} (hk : ∀ (v1 : Int) (v4 : Int) (v5 : Int) (M : fMem), rg v1 → rg v4 → rg v5 → k v1 v4 v5 M = some q → fW G mX11_looksFor (fEm G mX11_looksFor (rP q.2 q.1) fNo) 0 0 97 [some (rv G 418), some (iv v1), none, none, some (iv v4), some (iv v5), none, none] [] M) : ∀ (n : Nat) (v1 : Int) (v2 : Int) (v3 : Int) (v4 : Int) (v5 : Int) (v6 : Int) (M : fMem), rg v1 → rg v2 → rg v3 → rg v4 → rg v5 → rg v6 → L_X11_looksFor_30 k n v1 v2 v3 v4 v5 v6 M = some q → fW G mX11_looksFor (fEm G mX11_looksFor (rP q.2 q.1) fNo) 0 0 30 [some (rv G 418), some (iv v1), some (iv v2), some (iv v3), some (iv v4), some (iv v5), some (iv v6), none] [] M := by
  intro n
  induction n with
  | zero =>
    intro v1 v2 v3 v4 v5 v6 M gv1 gv2 gv3 gv4 gv5 gv6 h
    rw [L_X11_looksFor_30] at h
    exact absurd h (by simp)
  | succ n ih =>
    intro v1 v2 v3 v4 v5 v6 M gv1 gv2 gv3 gv4 gv5 gv6 h
    rw [L_X11_looksFor_30] at h
    refine fW_rg (fun hR => ?_)
    refine fW_iload 32 dX11_looksFor_30 rfl rfl ?_
    refine fW_aload_n 33 dX11_looksFor_32 rfl rfl ?_
    refine fW_iload 35 dX11_looksFor_33 rfl rfl ?_
    obtain ⟨r4, e4, h⟩ := fBd h
    refine fW_cP (fI_V (as := [iv v4]) (rest := [iv v6]) miX11_shutMany hg clX11 rfl tc_418 wd_1336 (fRoom_of rfl) rfl (Nat.le_of_ble_eq_true rfl) dX11_looksFor_35) (s_X11_shutMany hg gv4 e4) rfl rfl rfl (fun g4 => ?_)
    refine fW_icmp_ge 41 97 gv6 g4 dX11_looksFor_38 rfl rfl (fun c5 => ?_) (fun c5 => ?_)
    · replace h := fTt h c5
      exact fW_sb (hk v1 v4 v5 M gv1 gv4 gv5 h) ⟨rfl, rfl, rfl, rfl, trivial⟩
    · replace h := fFf h c5
      refine fW_aload_n 42 dX11_looksFor_41 rfl rfl ?_
      refine fW_iload 44 dX11_looksFor_42 rfl rfl ?_
      refine fW_iload 46 dX11_looksFor_44 rfl rfl ?_
      obtain ⟨r6, e6, h⟩ := fBd h
      refine fW_cP (fI_V (as := [iv v4, iv v6]) (rest := []) miX11_byAge hg clX11 rfl tc_418 wd_1348 (fRoom_of rfl) rfl (Nat.le_of_ble_eq_true rfl) dX11_looksFor_46) (s_X11_byAge hg gv4 gv6 e6) rfl rfl rfl (fun g6 => ?_)
      refine fW_istore 51 (ls' := [some (rv G 418), some (iv v1), some (iv v2), some (iv v3), some (iv v4), some (iv v5), some (iv v6), some (iv r6)]) dX11_looksFor_49 rfl rfl (by decide) ?_
      refine fW_aload_n 52 dX11_looksFor_51 rfl rfl ?_
      refine fW_iload 54 dX11_looksFor_52 rfl rfl ?_
      refine fW_iload_n 55 dX11_looksFor_54 rfl rfl ?_
      refine fW_iload_n 56 dX11_looksFor_55 rfl rfl ?_
      refine fW_iload_n 57 dX11_looksFor_56 rfl rfl ?_
      obtain ⟨r7, e7, h⟩ := fBd h
      refine fW_cB (fI_V (as := [iv r6, iv v2, iv v3, iv v1]) (rest := []) miX11_goesInto hg clX11 rfl tc_418 wd_1459 (fRoom_of rfl) rfl (Nat.le_of_ble_eq_true rfl) dX11_looksFor_57) (s_X11_goesInto hg g6 gv2 gv3 gv1 e7) rfl rfl rfl (fun g7 => ?_)
      refine fW_rg (fun hR8 => ?_)
      refine fW_if_eq 63 68 (rg_z g7) dX11_looksFor_60 rfl rfl (fun c9 => ?_) (fun c9 => ?_)
      · replace h := fTt h c9
        refine fW_iload 70 dX11_looksFor_68 rfl rfl ?_
        refine fW_if_ne 73 87 gv6 dX11_looksFor_70 rfl rfl (fun c10 => ?_) (fun c10 => ?_)
        · replace h := fFf h c10
          refine fW_iload 89 dX11_looksFor_87 rfl rfl ?_
          refine fW_istore 91 (ls' := [some (rv G 418), some (iv v1), some (iv v2), some (iv v3), some (iv v4), some (iv v5), some (iv v6), some (iv r6)]) dX11_looksFor_89 rfl rfl (by decide) ?_
          refine fW_iinc 94 (ls' := [some (rv G 418), some (iv v1), some (iv v2), some (iv v3), some (iv v4), some (iv v5), some (iv (v6 + 1)), some (iv r6)]) dX11_looksFor_91 rfl rfl rfl (by decide) ?_
          refine fW_goto 30 dX11_looksFor_94 rfl ?_
          exact fW_sb (ih v1 v2 v3 v4 v5 (v6 + 1) r7.2 gv1 gv2 gv3 gv4 gv5 (rg_succ' gv6 g4 c5) h) ⟨rfl, rfl, rfl, rfl, rfl, rfl, rfl, trivial⟩
        · replace h := fTt h c10
          refine fW_aload_n 74 dX11_looksFor_73 rfl rfl ?_
          refine fW_getR 77 (r := 433) 20 hg clX11 (by decide) rfl tc_418 tf_11_20 wd_1194 dX11_looksFor_74 rfl ?_
          refine fW_aload_n 78 dX11_looksFor_77 rfl rfl ?_
          refine fW_getI 81 22 (ji := 22) hg clX11 rfl (by decide) rfl tc_418 wd_1196 dX11_looksFor_78 rfl ?_
          refine fW_iconst 82 dX11_looksFor_81 rfl ?_
          refine fW_isub 83 dX11_looksFor_82 rfl ?_
          obtain ⟨c11, h⟩ := fS h
          refine fW_iald 84 hg tc_433 ⟨c11.1, by rw [show Ln 433 = 19 from rfl]; exact c11.2⟩ dX11_looksFor_83 rfl ?_
          refine fW_goto 89 dX11_looksFor_84 rfl ?_
          refine fW_istore 91 (ls' := [some (rv G 418), some (iv v1), some (iv v2), some (iv v3), some (iv v4), some (iv (r7.2 433 ((r7.2 418 22) - 1))), some (iv v6), some (iv r6)]) dX11_looksFor_89 rfl rfl (by decide) ?_
          refine fW_iinc 94 (ls' := [some (rv G 418), some (iv v1), some (iv v2), some (iv v3), some (iv v4), some (iv (r7.2 433 ((r7.2 418 22) - 1))), some (iv (v6 + 1)), some (iv r6)]) dX11_looksFor_91 rfl rfl rfl (by decide) ?_
          refine fW_goto 30 dX11_looksFor_94 rfl ?_
          exact fW_sb (ih v1 v2 v3 v4 (r7.2 433 ((r7.2 418 22) - 1)) (v6 + 1) r7.2 gv1 gv2 gv3 gv4 (hR8 433 ((r7.2 418 22) - 1)) (rg_succ' gv6 g4 c5) h) ⟨rfl, rfl, rfl, rfl, rfl, rfl, rfl, trivial⟩
      · replace h := fFf h c9
        refine fW_aload_n 64 dX11_looksFor_63 rfl rfl ?_
        refine fW_getI 67 16 (ji := 16) hg clX11 rfl (by decide) rfl tc_418 wd_1190 dX11_looksFor_64 rfl ?_
        exact fW_iret rfl (by decide) (by decide) dX11_looksFor_67 (rI_i h (hR8 418 16))
def L_X11_looksFor_17  (k : fMem → Option (Int × fMem)) : Nat → Int → Int → Int → Int → fMem → Option (Int × fMem)
  | 0, _, _, _, _, _ => none
  | n + 1, v1, v2, v3, v4, M => (if 9 ≤ v4 then k  M else L_X11_looksFor_30 (fun (v1_12 : Int) (v4_12 : Int) (v5_12 : Int) (M_12 : fMem) => ((f_X11_leadOf v4_12 M_12).bind fun (r13 : Int) => (if -2147483648 ≤ v4_12 + 1 ∧ v4_12 + 1 < 2147483648 then L_X11_looksFor_17  k n v1_12 r13 v5_12 (v4_12 + 1) M_12 else none))) 20000 v1 v2 v3 v4 ((-1)) 0 M)
set_option maxRecDepth 100000 in
set_option maxHeartbeats 4000000 in
theorem l_X11_looksFor_17 {G : fG} (hg : gbt G = true)  {q : Int × fMem} {k : fMem → Option (Int × fMem)} (hk : ∀ (M : fMem), k M = some q → fW G mX11_looksFor (fEm G mX11_looksFor (rP q.2 q.1) fNo) 0 0 113 [some (rv G 418), none, none, none, none, none, none, none] [] M) : ∀ (n : Nat) (v1 : Int) (v2 : Int) (v3 : Int) (v4 : Int) (M : fMem), rg v1 → rg v2 → rg v3 → rg v4 → L_X11_looksFor_17 k n v1 v2 v3 v4 M = some q → fW G mX11_looksFor (fEm G mX11_looksFor (rP q.2 q.1) fNo) 0 0 17 [some (rv G 418), some (iv v1), some (iv v2), some (iv v3), some (iv v4), none, none, none] [] M := by
  intro n
  induction n with
  | zero =>
    intro v1 v2 v3 v4 M gv1 gv2 gv3 gv4 h
    rw [L_X11_looksFor_17] at h
    exact absurd h (by simp)
  | succ n ih =>
    intro v1 v2 v3 v4 M gv1 gv2 gv3 gv4 h
    rw [L_X11_looksFor_17] at h
    refine fW_rg (fun hR => ?_)
    refine fW_iload 19 dX11_looksFor_17 rfl rfl ?_
    refine fW_bipush 21 dX11_looksFor_19 rfl (by decide) ?_
    refine fW_icmp_ge 24 113 gv4 (by decide) dX11_looksFor_21 rfl rfl (fun c3 => ?_) (fun c3 => ?_)
    · replace h := fTt h c3
      exact fW_sb (hk M h) ⟨rfl, trivial⟩
    · replace h := fFf h c3
      refine fW_iconst 25 dX11_looksFor_24 rfl ?_
      refine fW_istore 27 (ls' := [some (rv G 418), some (iv v1), some (iv v2), some (iv v3), some (iv v4), some (iv ((-1))), none, none]) dX11_looksFor_25 rfl rfl (by decide) ?_
      refine fW_iconst 28 dX11_looksFor_27 rfl ?_
      refine fW_istore 30 (ls' := [some (rv G 418), some (iv v1), some (iv v2), some (iv v3), some (iv v4), some (iv ((-1))), some (iv 0), none]) dX11_looksFor_28 rfl rfl (by decide) ?_
      refine fW_sb (l_X11_looksFor_30 hg ?_ 20000 v1 v2 v3 v4 ((-1)) 0 M gv1 gv2 gv3 gv4 (by decide) (by decide) h) ⟨rfl, rfl, rfl, rfl, rfl, rfl, rfl, trivial⟩
      intro v1_12 v4_12 v5_12 M_12 gv1_12 gv4_12 gv5_12 h
      refine fW_rg (fun hR_12 => ?_)
      refine fW_aload_n 98 dX11_looksFor_97 rfl rfl ?_
      refine fW_iload 100 dX11_looksFor_98 rfl rfl ?_
      obtain ⟨r13, e13, h⟩ := fBd h
      refine fW_cP (fI_V (as := [iv v4_12]) (rest := []) miX11_leadOf hg clX11 rfl tc_418 wd_1447 (fRoom_of rfl) rfl (Nat.le_of_ble_eq_true rfl) dX11_looksFor_100) (s_X11_leadOf hg gv4_12 e13) rfl rfl rfl (fun g13 => ?_)
      refine fW_istore_n 104 (ls' := [some (rv G 418), some (iv v1_12), some (iv r13), none, some (iv v4_12), some (iv v5_12), none, none]) dX11_looksFor_103 rfl rfl rfl (by decide) ?_
      refine fW_iload 106 dX11_looksFor_104 rfl rfl ?_
      refine fW_istore_n 107 (ls' := [some (rv G 418), some (iv v1_12), some (iv r13), some (iv v5_12), some (iv v4_12), some (iv v5_12), none, none]) dX11_looksFor_106 rfl rfl rfl (by decide) ?_
      refine fW_iinc 110 (ls' := [some (rv G 418), some (iv v1_12), some (iv r13), some (iv v5_12), some (iv (v4_12 + 1)), some (iv v5_12), none, none]) dX11_looksFor_107 rfl rfl rfl (by decide) ?_
      refine fW_goto 17 dX11_looksFor_110 rfl ?_
      obtain ⟨c14, h⟩ := fS h
      exact fW_sb (ih v1_12 r13 v5_12 (v4_12 + 1) M_12 gv1_12 g13 gv5_12 c14 h) ⟨rfl, rfl, rfl, rfl, rfl, trivial⟩
def f_X11_looksFor (a1 : Int) (M : fMem) : Option (Int × fMem) := L_X11_looksFor_17 (fun  (M_15 : fMem) => some (M_15 418 16, M_15)) 20000 a1 ((-1)) 0 0 (mset (mset M 418 16 0) 418 22 0)
set_option maxRecDepth 100000 in
set_option maxHeartbeats 4000000 in
theorem s_X11_looksFor {G : fG} (hg : gbt G = true) {a1 : Int} (ga1 : rg a1) {M : fMem} {q : Int × fMem} (h : f_X11_looksFor a1 M = some q) : fSp G mX11_looksFor [rv G 418, iv a1] M (rP q.2 q.1) fNo := by
  refine fSp_of (by decide +kernel) (by decide +kernel) (fC1 rfl (fC1 rfl fC0)) (Nat.le_of_ble_eq_true rfl) ?_
  show fW G mX11_looksFor (fEm G mX11_looksFor (rP q.2 q.1) fNo) 0 0 0 [some (rv G 418), some (iv a1), none, none, none, none, none, none] [] M
  rw [f_X11_looksFor] at h
  refine fW_rg (fun hR => ?_)
  refine fW_aload_n 1 dX11_looksFor_0 rfl rfl ?_
  refine fW_iconst 2 dX11_looksFor_1 rfl ?_
  refine fW_putI 5 16 (ji := 16) hg clX11 rfl (by decide) rfl rfl rfl tc_418 (by decide) wd_1190 dX11_looksFor_2 rfl ?_
  refine fW_rg (fun hR1 => ?_)
  refine fW_aload_n 6 dX11_looksFor_5 rfl rfl ?_
  refine fW_iconst 7 dX11_looksFor_6 rfl ?_
  refine fW_putI 10 22 (ji := 22) hg clX11 rfl (by decide) rfl rfl rfl tc_418 (by decide) wd_1196 dX11_looksFor_7 rfl ?_
  refine fW_rg (fun hR2 => ?_)
  refine fW_iconst 11 dX11_looksFor_10 rfl ?_
  refine fW_istore_n 12 (ls' := [some (rv G 418), some (iv a1), some (iv ((-1))), none, none, none, none, none]) dX11_looksFor_11 rfl rfl rfl (by decide) ?_
  refine fW_iconst 13 dX11_looksFor_12 rfl ?_
  refine fW_istore_n 14 (ls' := [some (rv G 418), some (iv a1), some (iv ((-1))), some (iv 0), none, none, none, none]) dX11_looksFor_13 rfl rfl rfl (by decide) ?_
  refine fW_iconst 15 dX11_looksFor_14 rfl ?_
  refine fW_istore 17 (ls' := [some (rv G 418), some (iv a1), some (iv ((-1))), some (iv 0), some (iv 0), none, none, none]) dX11_looksFor_15 rfl rfl (by decide) ?_
  refine fW_sb (l_X11_looksFor_17 hg ?_ 20000 a1 ((-1)) 0 0 (mset (mset M 418 16 0) 418 22 0) ga1 (by decide) (by decide) (by decide) h) ⟨rfl, rfl, rfl, rfl, rfl, trivial⟩
  intro M_15 h
  refine fW_rg (fun hR_15 => ?_)
  refine fW_aload_n 114 dX11_looksFor_113 rfl rfl ?_
  refine fW_getI 117 16 (ji := 16) hg clX11 rfl (by decide) rfl tc_418 wd_1190 dX11_looksFor_114 rfl ?_
  exact fW_iret rfl (by decide) (by decide) dX11_looksFor_117 (rI_i h (hR_15 418 16))
def mX11_comesTo : fMt := (yX11_comesTo, cX11_comesTo, 8, none, { frames := 5, cells := 0, slots := 0, locals := 200 })
theorem miX11_comesTo : fMv mX11_comesTo 3 := ⟨⟨fM 1500 (by decide +kernel) rfl, fM 101 (by decide +kernel) rfl, ⟨by decide +kernel, by decide +kernel⟩, by decide +kernel⟩, fM 1499 (by decide +kernel) rfl, fM 67 (by decide +kernel) rfl⟩
def L_X11_comesTo_14  (k : Int → Int → Int → Int → fMem → Option (fMem)) : Nat → Int → Int → Int → Int → Int → Int → fMem → Option (fMem)
  | 0, _, _, _, _, _, _, _ => none
  | n + 1, v1, v2, v3, v4, v5, v6, M => (if v2 ≤ v6 then k v2 v3 v4 v5 M else ((f_X11_leadOf v6 M).bind fun (r4 : Int) => (if r4 = ((-1)) then L_X11_comesTo_14  k n v1 v2 v3 r4 v5 (v6 + 1) M else ((f_X11_bounds r4 v4 v5 M).bind fun (r6 : fMem) => ((f_X11_fallsIn r4 v1 r6).bind fun (r8 : Int × fMem) => L_X11_comesTo_14  k n v1 v2 v3 r4 r8.1 (v6 + 1) r8.2)))))
set_option maxRecDepth 100000 in
set_option maxHeartbeats 4000000 in
theorem l_X11_comesTo_14 {G : fG} (hg : gbt G = true)  {q : fMem} {k : Int → Int → Int → Int → fMem → Option (fMem)} (hk : ∀ (v2 : Int) (v3 : Int) (v4 : Int) (v5 : Int) (M : fMem), rg v2 → rg v3 → rg v4 → rg v5 → k v2 v3 v4 v5 M = some q → fW G mX11_comesTo (fEm G mX11_comesTo (rV q) fNo) 0 0 63 [some (rv G 418), none, some (iv v2), some (iv v3), some (iv v4), some (iv v5), none, none] [] M) : ∀ (n : Nat) (v1 : Int) (v2 : Int) (v3 : Int) (v4 : Int) (v5 : Int) (v6 : Int) (M : fMem), rg v1 → rg v2 → rg v3 → rg v4 → rg v5 → rg v6 → L_X11_comesTo_14 k n v1 v2 v3 v4 v5 v6 M = some q → fW G mX11_comesTo (fEm G mX11_comesTo (rV q) fNo) 0 0 14 [some (rv G 418), some (iv v1), some (iv v2), some (iv v3), some (iv v4), some (iv v5), some (iv v6), none] [] M := by
  intro n
  induction n with
  | zero =>
    intro v1 v2 v3 v4 v5 v6 M gv1 gv2 gv3 gv4 gv5 gv6 h
    rw [L_X11_comesTo_14] at h
    exact absurd h (by simp)
  | succ n ih =>
    intro v1 v2 v3 v4 v5 v6 M gv1 gv2 gv3 gv4 gv5 gv6 h
    rw [L_X11_comesTo_14] at h
    refine fW_rg (fun hR => ?_)
    refine fW_iload 16 dX11_comesTo_14 rfl rfl ?_
    refine fW_iload_n 17 dX11_comesTo_16 rfl rfl ?_
    refine fW_icmp_ge 20 63 gv6 gv2 dX11_comesTo_17 rfl rfl (fun c3 => ?_) (fun c3 => ?_)
    · replace h := fTt h c3
      exact fW_sb (hk v2 v3 v4 v5 M gv2 gv3 gv4 gv5 h) ⟨rfl, rfl, rfl, rfl, rfl, trivial⟩
    · replace h := fFf h c3
      refine fW_aload_n 21 dX11_comesTo_20 rfl rfl ?_
      refine fW_iload 23 dX11_comesTo_21 rfl rfl ?_
      obtain ⟨r4, e4, h⟩ := fBd h
      refine fW_cP (fI_V (as := [iv v6]) (rest := []) miX11_leadOf hg clX11 rfl tc_418 wd_1447 (fRoom_of rfl) rfl (Nat.le_of_ble_eq_true rfl) dX11_comesTo_23) (s_X11_leadOf hg gv6 e4) rfl rfl rfl (fun g4 => ?_)
      refine fW_istore 28 (ls' := [some (rv G 418), some (iv v1), some (iv v2), some (iv v3), some (iv v4), some (iv v5), some (iv v6), some (iv r4)]) dX11_comesTo_26 rfl rfl (by decide) ?_
      refine fW_iload 30 dX11_comesTo_28 rfl rfl ?_
      refine fW_iconst 31 dX11_comesTo_30 rfl ?_
      refine fW_icmp_eq 34 53 g4 (by decide) dX11_comesTo_31 rfl rfl (fun c5 => ?_) (fun c5 => ?_)
      · replace h := fTt h c5
        refine fW_iload 55 dX11_comesTo_53 rfl rfl ?_
        refine fW_istore 57 (ls' := [some (rv G 418), some (iv v1), some (iv v2), some (iv v3), some (iv r4), some (iv v5), some (iv v6), some (iv r4)]) dX11_comesTo_55 rfl rfl (by decide) ?_
        refine fW_iinc 60 (ls' := [some (rv G 418), some (iv v1), some (iv v2), some (iv v3), some (iv r4), some (iv v5), some (iv (v6 + 1)), some (iv r4)]) dX11_comesTo_57 rfl rfl rfl (by decide) ?_
        refine fW_goto 14 dX11_comesTo_60 rfl ?_
        exact fW_sb (ih v1 v2 v3 r4 v5 (v6 + 1) M gv1 gv2 gv3 g4 gv5 (rg_succ' gv6 gv2 c3) h) ⟨rfl, rfl, rfl, rfl, rfl, rfl, rfl, trivial⟩
      · replace h := fFf h c5
        refine fW_aload_n 35 dX11_comesTo_34 rfl rfl ?_
        refine fW_iload 37 dX11_comesTo_35 rfl rfl ?_
        refine fW_iload 39 dX11_comesTo_37 rfl rfl ?_
        refine fW_iload 41 dX11_comesTo_39 rfl rfl ?_
        obtain ⟨r6, e6, h⟩ := fBd h
        refine fW_cV (fI_V (as := [iv r4, iv v4, iv v5]) (rest := []) miX11_bounds hg clX11 rfl tc_418 wd_1463 (fRoom_of rfl) rfl (Nat.le_of_ble_eq_true rfl) dX11_comesTo_41) (s_X11_bounds hg g4 gv4 gv5 e6) rfl rfl rfl ?_
        refine fW_rg (fun hR7 => ?_)
        refine fW_aload_n 45 dX11_comesTo_44 rfl rfl ?_
        refine fW_iload 47 dX11_comesTo_45 rfl rfl ?_
        refine fW_iload_n 48 dX11_comesTo_47 rfl rfl ?_
        obtain ⟨r8, e8, h⟩ := fBd h
        refine fW_cP (fI_V (as := [iv r4, iv v1]) (rest := []) miX11_fallsIn hg clX11 rfl tc_418 wd_1471 (fRoom_of rfl) rfl (Nat.le_of_ble_eq_true rfl) dX11_comesTo_48) (s_X11_fallsIn hg g4 gv1 e8) rfl rfl rfl (fun g8 => ?_)
        refine fW_rg (fun hR9 => ?_)
        refine fW_istore 53 (ls' := [some (rv G 418), some (iv v1), some (iv v2), some (iv v3), some (iv v4), some (iv r8.1), some (iv v6), some (iv r4)]) dX11_comesTo_51 rfl rfl (by decide) ?_
        refine fW_iload 55 dX11_comesTo_53 rfl rfl ?_
        refine fW_istore 57 (ls' := [some (rv G 418), some (iv v1), some (iv v2), some (iv v3), some (iv r4), some (iv r8.1), some (iv v6), some (iv r4)]) dX11_comesTo_55 rfl rfl (by decide) ?_
        refine fW_iinc 60 (ls' := [some (rv G 418), some (iv v1), some (iv v2), some (iv v3), some (iv r4), some (iv r8.1), some (iv (v6 + 1)), some (iv r4)]) dX11_comesTo_57 rfl rfl rfl (by decide) ?_
        refine fW_goto 14 dX11_comesTo_60 rfl ?_
        exact fW_sb (ih v1 v2 v3 r4 r8.1 (v6 + 1) r8.2 gv1 gv2 gv3 g4 g8 (rg_succ' gv6 gv2 c3) h) ⟨rfl, rfl, rfl, rfl, rfl, rfl, rfl, trivial⟩
def f_X11_comesTo (a1 : Int) (a2 : Int) (a3 : Int) (M : fMem) : Option (fMem) := ((f_X11_laysEntries 0 M).bind fun (r1 : fMem) => L_X11_comesTo_14 (fun (v2_10 : Int) (v3_10 : Int) (v4_10 : Int) (v5_10 : Int) (M_10 : fMem) => ((f_X11_rowAt v2_10 v3_10 M_10).bind fun (r11 : Int) => ((f_X11_bounds r11 v4_10 v5_10 M_10).bind fun (r12 : fMem) => some r12))) 20000 a1 a2 a3 ((-1)) 0 0 r1)
set_option maxRecDepth 100000 in
set_option maxHeartbeats 4000000 in
theorem s_X11_comesTo {G : fG} (hg : gbt G = true) {a1 : Int} (ga1 : rg a1) {a2 : Int} (ga2 : rg a2) {a3 : Int} (ga3 : rg a3) {M : fMem} {q : fMem} (h : f_X11_comesTo a1 a2 a3 M = some q) : fSp G mX11_comesTo [rv G 418, iv a1, iv a2, iv a3] M (rV q) fNo := by
  refine fSp_of (by decide +kernel) (by decide +kernel) (fC1 rfl (fC1 rfl (fC1 rfl (fC1 rfl fC0)))) (Nat.le_of_ble_eq_true rfl) ?_
  show fW G mX11_comesTo (fEm G mX11_comesTo (rV q) fNo) 0 0 0 [some (rv G 418), some (iv a1), some (iv a2), some (iv a3), none, none, none, none] [] M
  rw [f_X11_comesTo] at h
  refine fW_rg (fun hR => ?_)
  refine fW_aload_n 1 dX11_comesTo_0 rfl rfl ?_
  refine fW_iconst 2 dX11_comesTo_1 rfl ?_
  obtain ⟨r1, e1, h⟩ := fBd h
  refine fW_cV (fI_V (as := [iv 0]) (rest := []) miX11_laysEntries hg clX11 rfl tc_418 wd_1431 (fRoom_of rfl) rfl (Nat.le_of_ble_eq_true rfl) dX11_comesTo_2) (s_X11_laysEntries hg (by decide) e1) rfl rfl rfl ?_
  refine fW_rg (fun hR2 => ?_)
  refine fW_iconst 6 dX11_comesTo_5 rfl ?_
  refine fW_istore 8 (ls' := [some (rv G 418), some (iv a1), some (iv a2), some (iv a3), some (iv ((-1))), none, none, none]) dX11_comesTo_6 rfl rfl (by decide) ?_
  refine fW_iconst 9 dX11_comesTo_8 rfl ?_
  refine fW_istore 11 (ls' := [some (rv G 418), some (iv a1), some (iv a2), some (iv a3), some (iv ((-1))), some (iv 0), none, none]) dX11_comesTo_9 rfl rfl (by decide) ?_
  refine fW_iconst 12 dX11_comesTo_11 rfl ?_
  refine fW_istore 14 (ls' := [some (rv G 418), some (iv a1), some (iv a2), some (iv a3), some (iv ((-1))), some (iv 0), some (iv 0), none]) dX11_comesTo_12 rfl rfl (by decide) ?_
  refine fW_sb (l_X11_comesTo_14 hg ?_ 20000 a1 a2 a3 ((-1)) 0 0 r1 ga1 ga2 ga3 (by decide) (by decide) (by decide) h) ⟨rfl, rfl, rfl, rfl, rfl, rfl, rfl, trivial⟩
  intro v2_10 v3_10 v4_10 v5_10 M_10 gv2_10 gv3_10 gv4_10 gv5_10 h
  refine fW_rg (fun hR_10 => ?_)
  refine fW_aload_n 64 dX11_comesTo_63 rfl rfl ?_
  refine fW_iload_n 65 dX11_comesTo_64 rfl rfl ?_
  refine fW_iload_n 66 dX11_comesTo_65 rfl rfl ?_
  obtain ⟨r11, e11, h⟩ := fBd h
  refine fW_cP (fI_S (as := [iv v2_10, iv v3_10]) (rest := [rv G 418]) miX11_rowAt rfl wd_1289 (fRoom_of rfl) rfl (Nat.le_of_ble_eq_true rfl) dX11_comesTo_66) (s_X11_rowAt gv2_10 gv3_10 e11) rfl rfl rfl (fun g11 => ?_)
  refine fW_iload 71 dX11_comesTo_69 rfl rfl ?_
  refine fW_iload 73 dX11_comesTo_71 rfl rfl ?_
  obtain ⟨r12, e12, h⟩ := fBd h
  refine fW_cV (fI_V (as := [iv r11, iv v4_10, iv v5_10]) (rest := []) miX11_bounds hg clX11 rfl tc_418 wd_1463 (fRoom_of rfl) rfl (Nat.le_of_ble_eq_true rfl) dX11_comesTo_73) (s_X11_bounds hg g11 gv4_10 gv5_10 e12) rfl rfl rfl ?_
  refine fW_rg (fun hR13 => ?_)
  exact fW_vret rfl (by decide) (by decide) dX11_comesTo_76 (rV_i h)
end MTH
