set_option maxRecDepth 20000 in
set_option maxHeartbeats 4000000 in
theorem gK_of {s : State} {b : Nat} (hts : ∀ w ∈ lw_tbl, w.before #[Value.ref b] s = true) : ∃ (D : va_G) (y : Nat → ClassId), gK D y s := by
  obtain ⟨cX0, iX0, hKX0⟩ := u_known (C := RX0) (T := TX0) (N := 3) (n := 3) hts inX0 (hts (.instantiable RX0 3) (List.mem_of_getElem? (i := 233) (by decide +kernel)))
  obtain ⟨cX1, iX1, hKX1⟩ := u_known (C := RX1) (T := TX1) (N := 10) (n := 10) hts inX1 (hts (.instantiable RX1 10) (List.mem_of_getElem? (i := 117) (by decide +kernel)))
  obtain ⟨cX2, iX2, hKX2⟩ := u_known (C := RX2) (T := TX2) (N := 5) (n := 5) hts inX2 (hts (.instantiable RX2 5) (List.mem_of_getElem? (i := 249) (by decide +kernel)))
  obtain ⟨cX3, iX3, hKX3⟩ := u_known (C := RX3) (T := TX3) (N := 2) (n := 2) hts inX3 (hts (.instantiable RX3 2) (List.mem_of_getElem? (i := 218) (by decide +kernel)))
  obtain ⟨cX4, iX4, hKX4⟩ := u_known (C := RX4) (T := TX4) (N := 2) (n := 2) hts inX4 (hts (.instantiable RX4 2) (List.mem_of_getElem? (i := 110) (by decide +kernel)))
  obtain ⟨cX6, iX6, hKX6⟩ := u_known (C := RX6) (T := TX6) (N := 5) (n := 5) hts inX6 (hts (.instantiable RX6 5) (List.mem_of_getElem? (i := 81) (by decide +kernel)))
  obtain ⟨cX7, iX7, hKX7⟩ := u_known (C := RX7) (T := TX7) (N := 4) (n := 4) hts inX7 (hts (.instantiable RX7 4) (List.mem_of_getElem? (i := 199) (by decide +kernel)))
  obtain ⟨cX8, iX8, hKX8⟩ := u_known (C := RX8) (T := TX8) (N := 5) (n := 5) hts inX8 (hts (.instantiable RX8 5) (List.mem_of_getElem? (i := 171) (by decide +kernel)))
  obtain ⟨cX9, iX9, hKX9⟩ := u_known (C := RX9) (T := TX9) (N := 3) (n := 3) hts inX9 (hts (.instantiable RX9 3) (List.mem_of_getElem? (i := 272) (by decide +kernel)))
  obtain ⟨cX10, iX10, hKX10⟩ := u_known (C := RX10) (T := TX10) (N := 2) (n := 2) hts inX10 (hts (.instantiable RX10 2) (List.mem_of_getElem? (i := 64) (by decide +kernel)))
  obtain ⟨cX11, iX11, hKX11⟩ := u_known (C := RX11) (T := TX11) (N := 9) (n := 9) hts inX11 (hts (.instantiable RX11 9) (List.mem_of_getElem? (i := 56) (by decide +kernel)))
  obtain ⟨cX12, iX12, hKX12⟩ := u_known (C := RX12) (T := TX12) (N := 31) (n := 31) hts inX12 (hts (.instantiable RX12 31) (List.mem_of_getElem? (i := 797) (by decide +kernel)))
  obtain ⟨aI, kI, pI, fI1, fI2, fI3⟩ := Cond.arrayClass_spec (hts (.arrayClass .int) (List.mem_of_getElem? (i := 79) (by decide +kernel)))
  obtain ⟨aJ, kJ, pJ, fJ1, fJ2, fJ3⟩ := Cond.arrayClass_spec (hts (.arrayClass .long) (List.mem_of_getElem? (i := 231) (by decide +kernel)))
  obtain ⟨aZ, kZ, pZ, fZ1, fZ2, fZ3⟩ := Cond.arrayClass_spec (hts (.arrayClass .boolean) (List.mem_of_getElem? (i := 195) (by decide +kernel)))
  have oB := hts (.arrayOver (.object RX1)) (List.mem_of_getElem? (i := 116) (by decide +kernel))
  obtain ⟨pB, aB, kB, fB1, fB2, fB3, fB4, fB5⟩ := Cond.arrayOver_spec oB
  have oS := hts (.arrayOver (.object RX9)) (List.mem_of_getElem? (i := 197) (by decide +kernel))
  obtain ⟨pS, aS, kS, fS1, fS2, fS3, fS4, fS5⟩ := Cond.arrayOver_spec oS
  refine ⟨(fun k => match k with | 0 => cX0 | 1 => cX1 | 2 => cX2 | 3 => cX3 | 4 => cX4 | 5 => cX6 | 6 => cX7 | 7 => cX8 | 8 => cX9 | 9 => cX10 | 10 => cX11 | _ => cX12, fun k => match k with | 0 => iX0 | 1 => iX1 | 2 => iX2 | 3 => iX3 | 4 => iX4 | 5 => iX6 | 6 => iX7 | 7 => iX8 | 8 => iX9 | 9 => iX10 | 10 => iX11 | _ => iX12), fun k => match k with | 0 => aI | 1 => aJ | 2 => aZ | 3 => aB | _ => aS, ⟨fun k r hr => ?_, fun k r hr => ?_⟩, fun r hr => ?_, va_AO.of oB, va_AO.of oS⟩
  · match k, hr with
    | 0, hr => cases hr; exact hKX0
    | 1, hr => cases hr; exact hKX1
    | 2, hr => cases hr; exact hKX2
    | 3, hr => cases hr; exact hKX3
    | 4, hr => cases hr; exact hKX4
    | 5, hr => cases hr; exact hKX6
    | 6, hr => cases hr; exact hKX7
    | 7, hr => cases hr; exact hKX8
    | 8, hr => cases hr; exact hKX9
    | 9, hr => cases hr; exact hKX10
    | 10, hr => cases hr; exact hKX11
    | 11, hr => cases hr; exact hKX12
    | k + 12, hr => simp [vwCl] at hr
  · match k, hr with
    | 0, hr => cases hr; exact ⟨fun n z => ⟨(fun k h => by cases h), kI, fI2, pI, fI3⟩, fI1⟩
    | 1, hr => cases hr; exact ⟨fun n z => ⟨(fun k h => by cases h), kJ, fJ2, pJ, fJ3⟩, fJ1⟩
    | 2, hr => cases hr; exact ⟨fun n z => ⟨(fun k h => by cases h), kZ, fZ2, pZ, fZ3⟩, fZ1⟩
    | 3, hr => cases hr; exact ⟨fun n z => ⟨(fun k h => by cases h), kB, fB3, pB, fB4⟩, kB, pB, fB3, fB4, fB1, fB5⟩
    | 4, hr => cases hr; exact ⟨fun n z => ⟨(fun k h => by cases h), kS, fS3, pS, fS4⟩, kS, pS, fS3, fS4, fS1, fS5⟩
    | k + 5, hr => simp at hr
  · simp only [nestL, List.mem_cons, List.not_mem_nil, or_false] at hr
    rcases hr with rfl | rfl | rfl | rfl | rfl | rfl | rfl | rfl | rfl | rfl
    · exact va_Nw.of rfl (hts (.methodLinkNest RX11 9 yX10_init RX11) (List.mem_of_getElem? (i := 65) (by decide +kernel)))
    · exact va_Nw.of rfl (hts (.methodLinkNest RX4 21 yX1_init RX11) (List.mem_of_getElem? (i := 118) (by decide +kernel)))
    · exact va_Nw.of rfl (hts (.methodLinkNest RX11 32 yX8_init RX11) (List.mem_of_getElem? (i := 172) (by decide +kernel)))
    · exact va_Nw.of rfl (hts (.methodLinkNest RX11 45 yX7_init RX11) (List.mem_of_getElem? (i := 200) (by decide +kernel)))
    · exact va_Nw.of rfl (hts (.methodLinkNest RX11 52 yX3_init RX11) (List.mem_of_getElem? (i := 219) (by decide +kernel)))
    · exact va_Nw.of rfl (hts (.methodLinkNest RX11 59 yX0_init RX11) (List.mem_of_getElem? (i := 234) (by decide +kernel)))
    · exact va_Nw.of rfl (hts (.methodLinkNest RX11 66 yX2_init RX11) (List.mem_of_getElem? (i := 250) (by decide +kernel)))
    · exact va_Nw.of rfl (hts (.methodLinkNest RX11 71 yX9_init RX11) (List.mem_of_getElem? (i := 273) (by decide +kernel)))
    · exact va_Nw.of rfl (hts (.methodLinkNest RX9 18 yX8_init RX11) (List.mem_of_getElem? (i := 280) (by decide +kernel)))
    · exact va_Nw.of rfl (hts (.methodLinkNest RX1 115 yX11_canFold RX11) (List.mem_of_getElem? (i := 544) (by decide +kernel)))
