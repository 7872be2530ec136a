/-! texts: worked out by the twins -/
def d0a : XS := (m_types S0 825371952).2
def d0b : XS := (m_types d0a 0).2
def d0c : XS := (m_X3_layAll d0b).2
set_option maxRecDepth 100000 in
theorem d0_ev : (m_types S0 825371952).1 = 1 ∧ (m_types d0a 0).1 = 1 ∧ (m_X3_layAll d0b).1 = (-101) ∧ ivb S0 = true ∧ ivb d0a = true ∧ ivb d0b = true ∧ m_X3_count d0c 12 = 0 ∧ m_X3_count d0c 0 = 0 := by decide +kernel
theorem d0_s1 : f_types S0 825371952 = (1, d0a) := by rw [t_types, d0a]; exact pr_of d0_ev.1
theorem d0_s2 : f_types d0a 0 = (1, d0b) := by rw [t_types, d0b]; exact pr_of d0_ev.2.1
theorem d0_s3 : f_X3_layAll d0b = ((-101), d0c) := by rw [t_X3_layAll, d0c]; exact pr_of d0_ev.2.2.1
theorem d0_c (l : Launch) (G : GG) : Ma l yL_told wsL_told ({ frames := 7, cells := 50, slots := 691, locals := 154 } : Room) G [.long 825371952, .long 0] (-101) 50 691 :=
  c_L_told_neg l G d0_s1 d0_s2 d0_s3 (ivb_ok d0_ev.2.2.2.1) (ivb_ok d0_ev.2.2.2.2.1) (ivb_ok d0_ev.2.2.2.2.2.1) (by decide) ((t_X3_count _ _).trans d0_ev.2.2.2.2.2.2.1) ((t_X3_count _ _).trans d0_ev.2.2.2.2.2.2.2)
def d1a : XS := (m_types S0 808268086).2
def d1b : XS := (m_types d1a 0).2
def d1c : XS := (m_X3_layAll d1b).2
set_option maxRecDepth 100000 in
theorem d1_ev : (m_types S0 808268086).1 = 1 ∧ (m_types d1a 0).1 = 1 ∧ (m_X3_layAll d1b).1 = (-103) ∧ ivb S0 = true ∧ ivb d1a = true ∧ ivb d1b = true ∧ m_X3_count d1c 12 = 0 ∧ m_X3_count d1c 0 = 0 := by decide +kernel
theorem d1_s1 : f_types S0 808268086 = (1, d1a) := by rw [t_types, d1a]; exact pr_of d1_ev.1
theorem d1_s2 : f_types d1a 0 = (1, d1b) := by rw [t_types, d1b]; exact pr_of d1_ev.2.1
theorem d1_s3 : f_X3_layAll d1b = ((-103), d1c) := by rw [t_X3_layAll, d1c]; exact pr_of d1_ev.2.2.1
theorem d1_c (l : Launch) (G : GG) : Ma l yL_told wsL_told ({ frames := 7, cells := 50, slots := 691, locals := 154 } : Room) G [.long 808268086, .long 0] (-103) 50 691 :=
  c_L_told_neg l G d1_s1 d1_s2 d1_s3 (ivb_ok d1_ev.2.2.2.1) (ivb_ok d1_ev.2.2.2.2.1) (ivb_ok d1_ev.2.2.2.2.2.1) (by decide) ((t_X3_count _ _).trans d1_ev.2.2.2.2.2.2.1) ((t_X3_count _ _).trans d1_ev.2.2.2.2.2.2.2)
def d2a : XS := (m_types S0 206916565561).2
def d2b : XS := (m_types d2a 0).2
def d2c : XS := (m_X3_layAll d2b).2
set_option maxRecDepth 100000 in
theorem d2_ev : (m_types S0 206916565561).1 = 1 ∧ (m_types d2a 0).1 = 1 ∧ (m_X3_layAll d2b).1 = (-105) ∧ ivb S0 = true ∧ ivb d2a = true ∧ ivb d2b = true ∧ m_X3_count d2c 12 = 0 ∧ m_X3_count d2c 0 = 0 := by decide +kernel
theorem d2_s1 : f_types S0 206916565561 = (1, d2a) := by rw [t_types, d2a]; exact pr_of d2_ev.1
theorem d2_s2 : f_types d2a 0 = (1, d2b) := by rw [t_types, d2b]; exact pr_of d2_ev.2.1
theorem d2_s3 : f_X3_layAll d2b = ((-105), d2c) := by rw [t_X3_layAll, d2c]; exact pr_of d2_ev.2.2.1
theorem d2_c (l : Launch) (G : GG) : Ma l yL_told wsL_told ({ frames := 7, cells := 50, slots := 691, locals := 154 } : Room) G [.long 206916565561, .long 0] (-105) 50 691 :=
  c_L_told_neg l G d2_s1 d2_s2 d2_s3 (ivb_ok d2_ev.2.2.2.1) (ivb_ok d2_ev.2.2.2.2.1) (ivb_ok d2_ev.2.2.2.2.2.1) (by decide) ((t_X3_count _ _).trans d2_ev.2.2.2.2.2.2.1) ((t_X3_count _ _).trans d2_ev.2.2.2.2.2.2.2)
def d3a : XS := (m_types S0 52970640783660).2
def d3b : XS := (m_types d3a 0).2
def d3c : XS := (m_X3_layAll d3b).2
set_option maxRecDepth 100000 in
theorem d3_ev : (m_types S0 52970640783660).1 = 1 ∧ (m_types d3a 0).1 = 1 ∧ (m_X3_layAll d3b).1 = (-105) ∧ ivb S0 = true ∧ ivb d3a = true ∧ ivb d3b = true ∧ m_X3_count d3c 12 = 0 ∧ m_X3_count d3c 0 = 0 := by decide +kernel
theorem d3_s1 : f_types S0 52970640783660 = (1, d3a) := by rw [t_types, d3a]; exact pr_of d3_ev.1
theorem d3_s2 : f_types d3a 0 = (1, d3b) := by rw [t_types, d3b]; exact pr_of d3_ev.2.1
theorem d3_s3 : f_X3_layAll d3b = ((-105), d3c) := by rw [t_X3_layAll, d3c]; exact pr_of d3_ev.2.2.1
theorem d3_c (l : Launch) (G : GG) : Ma l yL_told wsL_told ({ frames := 7, cells := 50, slots := 691, locals := 154 } : Room) G [.long 52970640783660, .long 0] (-105) 50 691 :=
  c_L_told_neg l G d3_s1 d3_s2 d3_s3 (ivb_ok d3_ev.2.2.2.1) (ivb_ok d3_ev.2.2.2.2.1) (ivb_ok d3_ev.2.2.2.2.2.1) (by decide) ((t_X3_count _ _).trans d3_ev.2.2.2.2.2.2.1) ((t_X3_count _ _).trans d3_ev.2.2.2.2.2.2.2)
def d4a : XS := (m_types S0 52970640781365).2
def d4b : XS := (m_types d4a 0).2
def d4c : XS := (m_X3_layAll d4b).2
set_option maxRecDepth 100000 in
theorem d4_ev : (m_types S0 52970640781365).1 = 1 ∧ (m_types d4a 0).1 = 1 ∧ (m_X3_layAll d4b).1 = (-104) ∧ ivb S0 = true ∧ ivb d4a = true ∧ ivb d4b = true ∧ m_X3_count d4c 12 = 0 ∧ m_X3_count d4c 0 = 0 := by decide +kernel
theorem d4_s1 : f_types S0 52970640781365 = (1, d4a) := by rw [t_types, d4a]; exact pr_of d4_ev.1
theorem d4_s2 : f_types d4a 0 = (1, d4b) := by rw [t_types, d4b]; exact pr_of d4_ev.2.1
theorem d4_s3 : f_X3_layAll d4b = ((-104), d4c) := by rw [t_X3_layAll, d4c]; exact pr_of d4_ev.2.2.1
theorem d4_c (l : Launch) (G : GG) : Ma l yL_told wsL_told ({ frames := 7, cells := 50, slots := 691, locals := 154 } : Room) G [.long 52970640781365, .long 0] (-104) 50 691 :=
  c_L_told_neg l G d4_s1 d4_s2 d4_s3 (ivb_ok d4_ev.2.2.2.1) (ivb_ok d4_ev.2.2.2.2.1) (ivb_ok d4_ev.2.2.2.2.2.1) (by decide) ((t_X3_count _ _).trans d4_ev.2.2.2.2.2.2.1) ((t_X3_count _ _).trans d4_ev.2.2.2.2.2.2.2)
def d5a : XS := (m_types S0 13560484040159281).2
def d5b : XS := (m_types d5a 0).2
def d5c : XS := (m_X3_layAll d5b).2
set_option maxRecDepth 100000 in
theorem d5_ev : (m_types S0 13560484040159281).1 = 1 ∧ (m_types d5a 0).1 = 1 ∧ (m_X3_layAll d5b).1 = (-106) ∧ ivb S0 = true ∧ ivb d5a = true ∧ ivb d5b = true ∧ m_X3_count d5c 12 = 0 ∧ m_X3_count d5c 0 = 0 := by decide +kernel
theorem d5_s1 : f_types S0 13560484040159281 = (1, d5a) := by rw [t_types, d5a]; exact pr_of d5_ev.1
theorem d5_s2 : f_types d5a 0 = (1, d5b) := by rw [t_types, d5b]; exact pr_of d5_ev.2.1
theorem d5_s3 : f_X3_layAll d5b = ((-106), d5c) := by rw [t_X3_layAll, d5c]; exact pr_of d5_ev.2.2.1
theorem d5_c (l : Launch) (G : GG) : Ma l yL_told wsL_told ({ frames := 7, cells := 50, slots := 691, locals := 154 } : Room) G [.long 13560484040159281, .long 0] (-106) 50 691 :=
  c_L_told_neg l G d5_s1 d5_s2 d5_s3 (ivb_ok d5_ev.2.2.2.1) (ivb_ok d5_ev.2.2.2.2.1) (ivb_ok d5_ev.2.2.2.2.2.1) (by decide) ((t_X3_count _ _).trans d5_ev.2.2.2.2.2.2.1) ((t_X3_count _ _).trans d5_ev.2.2.2.2.2.2.2)
def d6a : XS := (m_types S0 48).2
def d6b : XS := (m_types d6a 0).2
def d6c : XS := (m_X3_layAll d6b).2
set_option maxRecDepth 100000 in
theorem d6_ev : (m_types S0 48).1 = 1 ∧ (m_types d6a 0).1 = 1 ∧ (m_X3_layAll d6b).1 = (-101) ∧ ivb S0 = true ∧ ivb d6a = true ∧ ivb d6b = true ∧ m_X3_count d6c 12 = 0 ∧ m_X3_count d6c 0 = 0 := by decide +kernel
theorem d6_s1 : f_types S0 48 = (1, d6a) := by rw [t_types, d6a]; exact pr_of d6_ev.1
theorem d6_s2 : f_types d6a 0 = (1, d6b) := by rw [t_types, d6b]; exact pr_of d6_ev.2.1
theorem d6_s3 : f_X3_layAll d6b = ((-101), d6c) := by rw [t_X3_layAll, d6c]; exact pr_of d6_ev.2.2.1
theorem d6_c (l : Launch) (G : GG) : Ma l yL_told wsL_told ({ frames := 7, cells := 50, slots := 691, locals := 154 } : Room) G [.long 48, .long 0] (-101) 50 691 :=
  c_L_told_neg l G d6_s1 d6_s2 d6_s3 (ivb_ok d6_ev.2.2.2.1) (ivb_ok d6_ev.2.2.2.2.1) (ivb_ok d6_ev.2.2.2.2.2.1) (by decide) ((t_X3_count _ _).trans d6_ev.2.2.2.2.2.2.1) ((t_X3_count _ _).trans d6_ev.2.2.2.2.2.2.2)
def d7a : XS := (m_types S0 808267820).2
def d7b : XS := (m_types d7a 0).2
def d7c : XS := (m_X3_layAll d7b).2
set_option maxRecDepth 100000 in
theorem d7_ev : (m_types S0 808267820).1 = 1 ∧ (m_types d7a 0).1 = 1 ∧ (m_X3_layAll d7b).1 = (-104) ∧ ivb S0 = true ∧ ivb d7a = true ∧ ivb d7b = true ∧ m_X3_count d7c 12 = 0 ∧ m_X3_count d7c 0 = 0 := by decide +kernel
theorem d7_s1 : f_types S0 808267820 = (1, d7a) := by rw [t_types, d7a]; exact pr_of d7_ev.1
theorem d7_s2 : f_types d7a 0 = (1, d7b) := by rw [t_types, d7b]; exact pr_of d7_ev.2.1
theorem d7_s3 : f_X3_layAll d7b = ((-104), d7c) := by rw [t_X3_layAll, d7c]; exact pr_of d7_ev.2.2.1
theorem d7_c (l : Launch) (G : GG) : Ma l yL_told wsL_told ({ frames := 7, cells := 50, slots := 691, locals := 154 } : Room) G [.long 808267820, .long 0] (-104) 50 691 :=
  c_L_told_neg l G d7_s1 d7_s2 d7_s3 (ivb_ok d7_ev.2.2.2.1) (ivb_ok d7_ev.2.2.2.2.1) (ivb_ok d7_ev.2.2.2.2.2.1) (by decide) ((t_X3_count _ _).trans d7_ev.2.2.2.2.2.2.1) ((t_X3_count _ _).trans d7_ev.2.2.2.2.2.2.2)
def d8a : XS := (m_types S0 0).2
def d8b : XS := (m_types d8a 0).2
def d8c : XS := (m_X3_layAll d8b).2
set_option maxRecDepth 100000 in
theorem d8_ev : (m_types S0 0).1 = 1 ∧ (m_types d8a 0).1 = 1 ∧ (m_X3_layAll d8b).1 = (-100) ∧ ivb S0 = true ∧ ivb d8a = true ∧ ivb d8b = true ∧ m_X3_count d8c 12 = 0 ∧ m_X3_count d8c 0 = 0 := by decide +kernel
theorem d8_s1 : f_types S0 0 = (1, d8a) := by rw [t_types, d8a]; exact pr_of d8_ev.1
theorem d8_s2 : f_types d8a 0 = (1, d8b) := by rw [t_types, d8b]; exact pr_of d8_ev.2.1
theorem d8_s3 : f_X3_layAll d8b = ((-100), d8c) := by rw [t_X3_layAll, d8c]; exact pr_of d8_ev.2.2.1
theorem d8_c (l : Launch) (G : GG) : Ma l yL_told wsL_told ({ frames := 7, cells := 50, slots := 691, locals := 154 } : Room) G [.long 0, .long 0] (-100) 50 691 :=
  c_L_told_neg l G d8_s1 d8_s2 d8_s3 (ivb_ok d8_ev.2.2.2.1) (ivb_ok d8_ev.2.2.2.2.1) (ivb_ok d8_ev.2.2.2.2.2.1) (by decide) ((t_X3_count _ _).trans d8_ev.2.2.2.2.2.2.1) ((t_X3_count _ _).trans d8_ev.2.2.2.2.2.2.2)
def d9a : XS := (m_types S0 3544664071086944816).2
def d9b : XS := (m_types d9a 48).2
def d9c : XS := (m_X3_layAll d9b).2
set_option maxRecDepth 100000 in
theorem d9_ev : (m_types S0 3544664071086944816).1 = 1 ∧ (m_types d9a 48).1 = 1 ∧ (m_X3_layAll d9b).1 = 1 ∧ ivb S0 = true ∧ ivb d9a = true ∧ ivb d9b = true ∧ m_X3_count d9c 12 = 1 ∧ m_X3_count d9c 0 = 1 := by decide +kernel
theorem d9_s1 : f_types S0 3544664071086944816 = (1, d9a) := by rw [t_types, d9a]; exact pr_of d9_ev.1
theorem d9_s2 : f_types d9a 48 = (1, d9b) := by rw [t_types, d9b]; exact pr_of d9_ev.2.1
theorem d9_s3 : f_X3_layAll d9b = (1, d9c) := by rw [t_X3_layAll, d9c]; exact pr_of d9_ev.2.2.1
theorem d9_c (l : Launch) (G : GG) : Ma l yL_told wsL_told ({ frames := 7, cells := 50, slots := 691, locals := 154 } : Room) G [.long 3544664071086944816, .long 48] 1 50 691 :=
  c_L_told_pos l G d9_s1 d9_s2 d9_s3 (ivb_ok d9_ev.2.2.2.1) (ivb_ok d9_ev.2.2.2.2.1) (ivb_ok d9_ev.2.2.2.2.2.1) (by decide) ((t_X3_count _ _).trans d9_ev.2.2.2.2.2.2.1) ((t_X3_count _ _).trans d9_ev.2.2.2.2.2.2.2)
def d10a : XS := (m_types S0 3471483854134260026).2
def d10b : XS := (m_types d10a 54082969677106).2
def d10c : XS := (m_X3_layAll d10b).2
set_option maxRecDepth 100000 in
theorem d10_ev : (m_types S0 3471483854134260026).1 = 1 ∧ (m_types d10a 54082969677106).1 = 1 ∧ (m_X3_layAll d10b).1 = 3 ∧ ivb S0 = true ∧ ivb d10a = true ∧ ivb d10b = true ∧ m_X3_count d10c 12 = 1 ∧ m_X3_count d10c 0 = 3 := by decide +kernel
theorem d10_s1 : f_types S0 3471483854134260026 = (1, d10a) := by rw [t_types, d10a]; exact pr_of d10_ev.1
theorem d10_s2 : f_types d10a 54082969677106 = (1, d10b) := by rw [t_types, d10b]; exact pr_of d10_ev.2.1
theorem d10_s3 : f_X3_layAll d10b = (3, d10c) := by rw [t_X3_layAll, d10c]; exact pr_of d10_ev.2.2.1
theorem d10_c (l : Launch) (G : GG) : Ma l yL_told wsL_told ({ frames := 7, cells := 50, slots := 691, locals := 154 } : Room) G [.long 3471483854134260026, .long 54082969677106] 3 50 691 :=
  c_L_told_pos l G d10_s1 d10_s2 d10_s3 (ivb_ok d10_ev.2.2.2.1) (ivb_ok d10_ev.2.2.2.2.1) (ivb_ok d10_ev.2.2.2.2.2.1) (by decide) ((t_X3_count _ _).trans d10_ev.2.2.2.2.2.2.1) ((t_X3_count _ _).trans d10_ev.2.2.2.2.2.2.2)
def d11a : XS := (m_types S0 13560483805146417).2
def d11b : XS := (m_types d11a 0).2
def d11c : XS := (m_X3_layAll d11b).2
set_option maxRecDepth 100000 in
theorem d11_ev : (m_types S0 13560483805146417).1 = 1 ∧ (m_types d11a 0).1 = 1 ∧ (m_X3_layAll d11b).1 = (-4) ∧ ivb S0 = true ∧ ivb d11a = true ∧ ivb d11b = true ∧ m_X3_count d11c 12 = 0 ∧ m_X3_count d11c 0 = 0 := by decide +kernel
theorem d11_s1 : f_types S0 13560483805146417 = (1, d11a) := by rw [t_types, d11a]; exact pr_of d11_ev.1
theorem d11_s2 : f_types d11a 0 = (1, d11b) := by rw [t_types, d11b]; exact pr_of d11_ev.2.1
theorem d11_s3 : f_X3_layAll d11b = ((-4), d11c) := by rw [t_X3_layAll, d11c]; exact pr_of d11_ev.2.2.1
theorem d11_c (l : Launch) (G : GG) : Ma l yL_told wsL_told ({ frames := 7, cells := 50, slots := 691, locals := 154 } : Room) G [.long 13560483805146417, .long 0] (-4) 50 691 :=
  c_L_told_neg l G d11_s1 d11_s2 d11_s3 (ivb_ok d11_ev.2.2.2.1) (ivb_ok d11_ev.2.2.2.2.1) (ivb_ok d11_ev.2.2.2.2.2.1) (by decide) ((t_X3_count _ _).trans d11_ev.2.2.2.2.2.2.1) ((t_X3_count _ _).trans d11_ev.2.2.2.2.2.2.2)
def d12a : XS := (m_types S0 13560483805211952).2
def d12b : XS := (m_types d12a 0).2
def d12c : XS := (m_X3_layAll d12b).2
set_option maxRecDepth 100000 in
theorem d12_ev : (m_types S0 13560483805211952).1 = 1 ∧ (m_types d12a 0).1 = 1 ∧ (m_X3_layAll d12b).1 = (-4) ∧ ivb S0 = true ∧ ivb d12a = true ∧ ivb d12b = true ∧ m_X3_count d12c 12 = 0 ∧ m_X3_count d12c 0 = 0 := by decide +kernel
theorem d12_s1 : f_types S0 13560483805211952 = (1, d12a) := by rw [t_types, d12a]; exact pr_of d12_ev.1
theorem d12_s2 : f_types d12a 0 = (1, d12b) := by rw [t_types, d12b]; exact pr_of d12_ev.2.1
theorem d12_s3 : f_X3_layAll d12b = ((-4), d12c) := by rw [t_X3_layAll, d12c]; exact pr_of d12_ev.2.2.1
theorem d12_c (l : Launch) (G : GG) : Ma l yL_told wsL_told ({ frames := 7, cells := 50, slots := 691, locals := 154 } : Room) G [.long 13560483805211952, .long 0] (-4) 50 691 :=
  c_L_told_neg l G d12_s1 d12_s2 d12_s3 (ivb_ok d12_ev.2.2.2.1) (ivb_ok d12_ev.2.2.2.2.1) (ivb_ok d12_ev.2.2.2.2.2.1) (by decide) ((t_X3_count _ _).trans d12_ev.2.2.2.2.2.2.1) ((t_X3_count _ _).trans d12_ev.2.2.2.2.2.2.2)
def d13a : XS := (m_types S0 45).2
def d13b : XS := (m_types d13a 0).2
def d13c : XS := (m_X3_layAll d13b).2
set_option maxRecDepth 100000 in
theorem d13_ev : (m_types S0 45).1 = 1 ∧ (m_types d13a 0).1 = 1 ∧ (m_X3_layAll d13b).1 = (-100) ∧ ivb S0 = true ∧ ivb d13a = true ∧ ivb d13b = true ∧ m_X3_count d13c 12 = 0 ∧ m_X3_count d13c 0 = 0 := by decide +kernel
theorem d13_s1 : f_types S0 45 = (1, d13a) := by rw [t_types, d13a]; exact pr_of d13_ev.1
theorem d13_s2 : f_types d13a 0 = (1, d13b) := by rw [t_types, d13b]; exact pr_of d13_ev.2.1
theorem d13_s3 : f_X3_layAll d13b = ((-100), d13c) := by rw [t_X3_layAll, d13c]; exact pr_of d13_ev.2.2.1
theorem d13_c (l : Launch) (G : GG) : Ma l yL_told wsL_told ({ frames := 7, cells := 50, slots := 691, locals := 154 } : Room) G [.long 45, .long 0] (-100) 50 691 :=
  c_L_told_neg l G d13_s1 d13_s2 d13_s3 (ivb_ok d13_ev.2.2.2.1) (ivb_ok d13_ev.2.2.2.2.1) (ivb_ok d13_ev.2.2.2.2.2.1) (by decide) ((t_X3_count _ _).trans d13_ev.2.2.2.2.2.2.1) ((t_X3_count _ _).trans d13_ev.2.2.2.2.2.2.2)
def d14a : XS := (m_types S0 3160624).2
def d14b : XS := (m_types d14a 0).2
def d14c : XS := (m_X3_layAll d14b).2
set_option maxRecDepth 100000 in
theorem d14_ev : (m_types S0 3160624).1 = 1 ∧ (m_types d14a 0).1 = 1 ∧ (m_X3_layAll d14b).1 = (-101) ∧ ivb S0 = true ∧ ivb d14a = true ∧ ivb d14b = true ∧ m_X3_count d14c 12 = 0 ∧ m_X3_count d14c 0 = 0 := by decide +kernel
theorem d14_s1 : f_types S0 3160624 = (1, d14a) := by rw [t_types, d14a]; exact pr_of d14_ev.1
theorem d14_s2 : f_types d14a 0 = (1, d14b) := by rw [t_types, d14b]; exact pr_of d14_ev.2.1
theorem d14_s3 : f_X3_layAll d14b = ((-101), d14c) := by rw [t_X3_layAll, d14c]; exact pr_of d14_ev.2.2.1
theorem d14_c (l : Launch) (G : GG) : Ma l yL_told wsL_told ({ frames := 7, cells := 50, slots := 691, locals := 154 } : Room) G [.long 3160624, .long 0] (-101) 50 691 :=
  c_L_told_neg l G d14_s1 d14_s2 d14_s3 (ivb_ok d14_ev.2.2.2.1) (ivb_ok d14_ev.2.2.2.2.1) (ivb_ok d14_ev.2.2.2.2.2.1) (by decide) ((t_X3_count _ _).trans d14_ev.2.2.2.2.2.2.1) ((t_X3_count _ _).trans d14_ev.2.2.2.2.2.2.2)
def d15a : XS := (m_types S0 808463665).2
def d15b : XS := (m_types d15a 0).2
def d15c : XS := (m_X3_layAll d15b).2
set_option maxRecDepth 100000 in
theorem d15_ev : (m_types S0 808463665).1 = 1 ∧ (m_types d15a 0).1 = 1 ∧ (m_X3_layAll d15b).1 = (-101) ∧ ivb S0 = true ∧ ivb d15a = true ∧ ivb d15b = true ∧ m_X3_count d15c 12 = 0 ∧ m_X3_count d15c 0 = 0 := by decide +kernel
theorem d15_s1 : f_types S0 808463665 = (1, d15a) := by rw [t_types, d15a]; exact pr_of d15_ev.1
theorem d15_s2 : f_types d15a 0 = (1, d15b) := by rw [t_types, d15b]; exact pr_of d15_ev.2.1
theorem d15_s3 : f_X3_layAll d15b = ((-101), d15c) := by rw [t_X3_layAll, d15c]; exact pr_of d15_ev.2.2.1
theorem d15_c (l : Launch) (G : GG) : Ma l yL_told wsL_told ({ frames := 7, cells := 50, slots := 691, locals := 154 } : Room) G [.long 808463665, .long 0] (-101) 50 691 :=
  c_L_told_neg l G d15_s1 d15_s2 d15_s3 (ivb_ok d15_ev.2.2.2.1) (ivb_ok d15_ev.2.2.2.2.1) (ivb_ok d15_ev.2.2.2.2.2.1) (by decide) ((t_X3_count _ _).trans d15_ev.2.2.2.2.2.2.1) ((t_X3_count _ _).trans d15_ev.2.2.2.2.2.2.2)
def d16a : XS := (m_types S0 52970640781612).2
def d16b : XS := (m_types d16a 0).2
def d16c : XS := (m_X3_layAll d16b).2
set_option maxRecDepth 100000 in
theorem d16_ev : (m_types S0 52970640781612).1 = 1 ∧ (m_types d16a 0).1 = 1 ∧ (m_X3_layAll d16b).1 = (-105) ∧ ivb S0 = true ∧ ivb d16a = true ∧ ivb d16b = true ∧ m_X3_count d16c 12 = 0 ∧ m_X3_count d16c 0 = 0 := by decide +kernel
theorem d16_s1 : f_types S0 52970640781612 = (1, d16a) := by rw [t_types, d16a]; exact pr_of d16_ev.1
theorem d16_s2 : f_types d16a 0 = (1, d16b) := by rw [t_types, d16b]; exact pr_of d16_ev.2.1
theorem d16_s3 : f_X3_layAll d16b = ((-105), d16c) := by rw [t_X3_layAll, d16c]; exact pr_of d16_ev.2.2.1
theorem d16_c (l : Launch) (G : GG) : Ma l yL_told wsL_told ({ frames := 7, cells := 50, slots := 691, locals := 154 } : Room) G [.long 52970640781612, .long 0] (-105) 50 691 :=
  c_L_told_neg l G d16_s1 d16_s2 d16_s3 (ivb_ok d16_ev.2.2.2.1) (ivb_ok d16_ev.2.2.2.2.1) (ivb_ok d16_ev.2.2.2.2.2.1) (by decide) ((t_X3_count _ _).trans d16_ev.2.2.2.2.2.2.1) ((t_X3_count _ _).trans d16_ev.2.2.2.2.2.2.2)
def d17a : XS := (m_types S0 13560484040093793).2
def d17b : XS := (m_types d17a 0).2
def d17c : XS := (m_X3_layAll d17b).2
set_option maxRecDepth 100000 in
theorem d17_ev : (m_types S0 13560484040093793).1 = 1 ∧ (m_types d17a 0).1 = 1 ∧ (m_X3_layAll d17b).1 = (-106) ∧ ivb S0 = true ∧ ivb d17a = true ∧ ivb d17b = true ∧ m_X3_count d17c 12 = 0 ∧ m_X3_count d17c 0 = 0 := by decide +kernel
theorem d17_s1 : f_types S0 13560484040093793 = (1, d17a) := by rw [t_types, d17a]; exact pr_of d17_ev.1
theorem d17_s2 : f_types d17a 0 = (1, d17b) := by rw [t_types, d17b]; exact pr_of d17_ev.2.1
theorem d17_s3 : f_X3_layAll d17b = ((-106), d17c) := by rw [t_X3_layAll, d17c]; exact pr_of d17_ev.2.2.1
theorem d17_c (l : Launch) (G : GG) : Ma l yL_told wsL_told ({ frames := 7, cells := 50, slots := 691, locals := 154 } : Room) G [.long 13560484040093793, .long 0] (-106) 50 691 :=
  c_L_told_neg l G d17_s1 d17_s2 d17_s3 (ivb_ok d17_ev.2.2.2.1) (ivb_ok d17_ev.2.2.2.2.1) (ivb_ok d17_ev.2.2.2.2.2.1) (by decide) ((t_X3_count _ _).trans d17_ev.2.2.2.2.2.2.1) ((t_X3_count _ _).trans d17_ev.2.2.2.2.2.2.2)
def tc0 : XS := S0
def tc1 : XS := (m_types tc0 3471483854134260012).2
def tc2 : XS := (m_types tc1 3615601241266926380).2
def tc3 : XS := (m_types tc2 3759718628399592748).2
def tc4 : XS := (m_types tc3 15249359435672887).2
def tc5 : XS := (m_X3_layAll tc4).2
def tc6 : XS := (m_X3_clearText tc5).2
def tc7 : XS := (m_types tc6 3471483854134260012).2
def tc8 : XS := (m_types tc7 14123442583515184).2
def tc9 : XS := (m_X3_layAll tc8).2
def tc10 : XS := (m_X3_layAll tc9).2
set_option maxRecDepth 100000 in
theorem texts_ev0 : ivb tc0 = true ∧ (m_types tc0 3471483854134260012).1 = 1 ∧ ivb tc1 = true ∧ (m_types tc1 3615601241266926380).1 = 1 ∧ ivb tc2 = true ∧ (m_types tc2 3759718628399592748).1 = 1 ∧ ivb tc3 = true ∧ (m_types tc3 15249359435672887).1 = 1 ∧ ivb tc4 = true ∧ (m_X3_layAll tc4).1 = (-6) ∧ ivb tc5 = true ∧ m_X3_count tc5 0 = 0 ∧ m_X3_count tc5 1 = 0 ∧ m_X3_count tc5 5 = 0 ∧ (m_X3_clearText tc5).1 = 31 ∧ ivb tc6 = true ∧ (m_types tc6 3471483854134260012).1 = 1 ∧ ivb tc7 = true ∧ (m_types tc7 14123442583515184).1 = 1 ∧ ivb tc8 = true ∧ (m_X3_layAll tc8).1 = 3 ∧ ivb tc9 = true ∧ m_X3_wire tc9 0 1 = 60 ∧ m_X3_wire tc9 2 1 = 200 := by decide +kernel
set_option maxRecDepth 100000 in
theorem texts_ev1 : m_X3_wire tc9 2 6 = 2 ∧ m_X3_count tc9 13 = 15 ∧ (m_X3_layAll tc9).1 = (-4) ∧ ivb tc10 = true := by decide +kernel
def tly : Nat → XS
  | 0 => tc10
  | k + 1 => (m_X3_type (tly k) (chr (nI (15 + k)))).2
set_option maxRecDepth 100000 in
theorem ty_ev : ∀ k : Nat, k < 65 → ivb (tly k) = true ∧ (m_X3_type (tly k) (chr (nI (15 + k)))).1 = nI (15 + k) + 1 := by decide +kernel
def td0 : XS := tly 65
def td1 : XS := (m_X3_type td0 49).2
def td2 : XS := (m_X3_layAll td1).2
def td3 : XS := (m_X3_clearText td2).2
def td4 : XS := (m_X3_layAll td3).2
set_option maxRecDepth 100000 in
theorem texts2_ev0 : ivb td0 = true ∧ (m_X3_type td0 49).1 = (-3) ∧ ivb td1 = true ∧ (m_X3_layAll td1).1 = (-115) ∧ ivb td2 = true ∧ (m_X3_clearText td2).1 = 80 ∧ ivb td3 = true ∧ (m_X3_layAll td3).1 = (-100) ∧ ivb td4 = true := by decide +kernel
theorem texts_i0 : Iv tc0 := ivb_ok texts_ev0.1
theorem texts_s0 : f_types tc0 3471483854134260012 = (1, tc1) := by rw [t_types, tc1]; exact pr_of texts_ev0.2.1
theorem texts_i1 : Iv tc1 := ivb_ok texts_ev0.2.2.1
theorem texts_s1 : f_types tc1 3615601241266926380 = (1, tc2) := by rw [t_types, tc2]; exact pr_of texts_ev0.2.2.2.1
theorem texts_i2 : Iv tc2 := ivb_ok texts_ev0.2.2.2.2.1
theorem texts_s2 : f_types tc2 3759718628399592748 = (1, tc3) := by rw [t_types, tc3]; exact pr_of texts_ev0.2.2.2.2.2.1
theorem texts_i3 : Iv tc3 := ivb_ok texts_ev0.2.2.2.2.2.2.1
theorem texts_s3 : f_types tc3 15249359435672887 = (1, tc4) := by rw [t_types, tc4]; exact pr_of texts_ev0.2.2.2.2.2.2.2.1
theorem texts_i4 : Iv tc4 := ivb_ok texts_ev0.2.2.2.2.2.2.2.2.1
theorem texts_s4 : f_X3_layAll tc4 = ((-6), tc5) := by rw [t_X3_layAll, tc5]; exact pr_of texts_ev0.2.2.2.2.2.2.2.2.2.1
theorem texts_i5 : Iv tc5 := ivb_ok texts_ev0.2.2.2.2.2.2.2.2.2.2.1
theorem texts_s5 : f_X3_count tc5 0 = 0 := (t_X3_count tc5 0).trans texts_ev0.2.2.2.2.2.2.2.2.2.2.2.1
theorem texts_s6 : f_X3_count tc5 1 = 0 := (t_X3_count tc5 1).trans texts_ev0.2.2.2.2.2.2.2.2.2.2.2.2.1
theorem texts_s7 : f_X3_count tc5 5 = 0 := (t_X3_count tc5 5).trans texts_ev0.2.2.2.2.2.2.2.2.2.2.2.2.2.1
theorem texts_s8 : f_X3_clearText tc5 = (31, tc6) := by rw [t_X3_clearText, tc6]; exact pr_of texts_ev0.2.2.2.2.2.2.2.2.2.2.2.2.2.2.1
theorem texts_i6 : Iv tc6 := ivb_ok texts_ev0.2.2.2.2.2.2.2.2.2.2.2.2.2.2.2.1
theorem texts_s9 : f_types tc6 3471483854134260012 = (1, tc7) := by rw [t_types, tc7]; exact pr_of texts_ev0.2.2.2.2.2.2.2.2.2.2.2.2.2.2.2.2.1
theorem texts_i7 : Iv tc7 := ivb_ok texts_ev0.2.2.2.2.2.2.2.2.2.2.2.2.2.2.2.2.2.1
theorem texts_s10 : f_types tc7 14123442583515184 = (1, tc8) := by rw [t_types, tc8]; exact pr_of texts_ev0.2.2.2.2.2.2.2.2.2.2.2.2.2.2.2.2.2.2.1
theorem texts_i8 : Iv tc8 := ivb_ok texts_ev0.2.2.2.2.2.2.2.2.2.2.2.2.2.2.2.2.2.2.2.1
theorem texts_s11 : f_X3_layAll tc8 = (3, tc9) := by rw [t_X3_layAll, tc9]; exact pr_of texts_ev0.2.2.2.2.2.2.2.2.2.2.2.2.2.2.2.2.2.2.2.2.1
theorem texts_i9 : Iv tc9 := ivb_ok texts_ev0.2.2.2.2.2.2.2.2.2.2.2.2.2.2.2.2.2.2.2.2.2.1
theorem texts_s12 : f_X3_wire tc9 0 1 = 60 := (t_X3_wire tc9 0 1).trans texts_ev0.2.2.2.2.2.2.2.2.2.2.2.2.2.2.2.2.2.2.2.2.2.2.1
theorem texts_s13 : f_X3_wire tc9 2 1 = 200 := (t_X3_wire tc9 2 1).trans texts_ev0.2.2.2.2.2.2.2.2.2.2.2.2.2.2.2.2.2.2.2.2.2.2.2
theorem texts_s14 : f_X3_wire tc9 2 6 = 2 := (t_X3_wire tc9 2 6).trans texts_ev1.1
theorem texts_s15 : f_X3_count tc9 13 = 15 := (t_X3_count tc9 13).trans texts_ev1.2.1
theorem texts_s16 : f_X3_layAll tc9 = ((-4), tc10) := by rw [t_X3_layAll, tc10]; exact pr_of texts_ev1.2.2.1
theorem texts_i10 : Iv tc10 := ivb_ok texts_ev1.2.2.2
theorem texts2_i0 : Iv td0 := ivb_ok texts2_ev0.1
theorem texts2_s0 : f_X3_type td0 49 = ((-3), td1) := by rw [t_X3_type, td1]; exact pr_of texts2_ev0.2.1
theorem texts2_i1 : Iv td1 := ivb_ok texts2_ev0.2.2.1
theorem texts2_s1 : f_X3_layAll td1 = ((-115), td2) := by rw [t_X3_layAll, td2]; exact pr_of texts2_ev0.2.2.2.1
theorem texts2_i2 : Iv td2 := ivb_ok texts2_ev0.2.2.2.2.1
theorem texts2_s2 : f_X3_clearText td2 = (80, td3) := by rw [t_X3_clearText, td3]; exact pr_of texts2_ev0.2.2.2.2.2.1
theorem texts2_i3 : Iv td3 := ivb_ok texts2_ev0.2.2.2.2.2.2.1
theorem texts2_s3 : f_X3_layAll td3 = ((-100), td4) := by rw [t_X3_layAll, td4]; exact pr_of texts2_ev0.2.2.2.2.2.2.2.1
theorem texts2_i4 : Iv td4 := ivb_ok texts2_ev0.2.2.2.2.2.2.2.2
theorem ty_s (k : Nat) (hk : k < 65) : f_X3_type (tly k) (chr (nI (15 + k))) = (nI (15 + k) + 1, tly (k + 1)) := by rw [t_X3_type, tly]; exact pr_of (ty_ev k hk).2
theorem ty_e : tly 0 = tc10 := by rw [tly]
theorem td_e : td0 = tly 65 := by rw [td0]
set_option maxHeartbeats 4000000 in
set_option maxRecDepth 100000 in
theorem c_L_texts (l : Launch) (G : GG) : Ma l yL_texts wsL_texts ({ frames := 8, cells := 950, slots := 13129, locals := 179 } : Room) G [] 1 950 13129 := by
  refine L_texts l G (d0_c l G) (d1_c l G) (d2_c l G) (d3_c l G) (d4_c l G) (d5_c l G) (d6_c l G) (d7_c l G) (d8_c l G) (d9_c l G) (d10_c l G) (d11_c l G) (d12_c l G) (d13_c l G) (d14_c l G) (d15_c l G) (d16_c l G) (d17_c l G) tly td0 td1 td2 td3 td4 tc0 tc1 tc2 tc3 tc4 tc5 tc6 tc7 tc8 tc9 tc10 rfl texts_i0 texts_i1 texts_i2 texts_i3 texts_i4 texts_i5 texts_i6 texts_i7 texts_i8 texts_i9 texts_i10 texts_s0 texts_s1 texts_s2 texts_s3 texts_s4 texts_s5 texts_s6 texts_s7 texts_s8 texts_s9 texts_s10 texts_s11 texts_s12 texts_s13 texts_s14 texts_s15 texts_s16 ty_e (fun k hk => ?_) ty_s td_e texts2_i0 texts2_i1 texts2_i2 texts2_i3 texts2_i4 texts2_s0 texts2_s1 texts2_s2 texts2_s3
  · rcases Nat.lt_or_ge k 65 with h | h
    · exact ivb_ok (ty_ev k h).1
    · have e : k = 65 := by omega
      subst e
      show Iv (tly 65)
      rw [← td_e]; exact texts2_i0
