theorem am_kl_all : ∀ i, i < 39 → am_ckL am_PP am_YY 167 (mL_law.getD i ([], [])).2 = true := by
  intro i h
  rcases (show i = 0 ∨ i = 1 ∨ i = 2 ∨ i = 3 ∨ i = 4 ∨ i = 5 ∨ i = 6 ∨ i = 7 ∨ i = 8 ∨ i = 9 ∨ i = 10 ∨ i = 11 ∨ i = 12 ∨ i = 13 ∨ i = 14 ∨ i = 15 ∨ i = 16 ∨ i = 17 ∨ i = 18 ∨ i = 19 ∨ i = 20 ∨ i = 21 ∨ i = 22 ∨ i = 23 ∨ i = 24 ∨ i = 25 ∨ i = 26 ∨ i = 27 ∨ i = 28 ∨ i = 29 ∨ i = 30 ∨ i = 31 ∨ i = 32 ∨ i = 33 ∨ i = 34 ∨ i = 35 ∨ i = 36 ∨ i = 37 ∨ i = 38 by omega) with rfl | rfl | rfl | rfl | rfl | rfl | rfl | rfl | rfl | rfl | rfl | rfl | rfl | rfl | rfl | rfl | rfl | rfl | rfl | rfl | rfl | rfl | rfl | rfl | rfl | rfl | rfl | rfl | rfl | rfl | rfl | rfl | rfl | rfl | rfl | rfl | rfl | rfl | rfl
  · exact am_kl0
  · exact am_kl1
  · exact am_kl2
  · exact am_kl3
  · exact am_kl4
  · exact am_kl5
  · exact am_kl6
  · exact am_kl7
  · exact am_kl8
  · exact am_kl9
  · exact am_kl10
  · exact am_kl11
  · exact am_kl12
  · exact am_kl13
  · exact am_kl14
  · exact am_kl15
  · exact am_kl16
  · exact am_kl17
  · exact am_kl18
  · exact am_kl19
  · exact am_kl20
  · exact am_kl21
  · exact am_kl22
  · exact am_kl23
  · exact am_kl24
  · exact am_kl25
  · exact am_kl26
  · exact am_kl27
  · exact am_kl28
  · exact am_kl29
  · exact am_kl30
  · exact am_kl31
  · exact am_kl32
  · exact am_kl33
  · exact am_kl34
  · exact am_kl35
  · exact am_kl36
  · exact am_kl37
  · exact am_kl38
theorem am_kc167 : (am_PT.getD 167 []).all (fun B => am_ckL am_PP am_YY 167 B.2) = true := by
  show mL_law.all (fun B => am_ckL am_PP am_YY 167 B.2) = true
  apply List.all_eq_true.mpr
  intro B hB
  obtain ⟨i, hi⟩ := List.getElem?_of_mem hB
  have hl : i < mL_law.length := (List.getElem?_eq_some_iff.mp hi).1
  have h := am_kl_all i hl
  rw [List.getD_eq_getElem?_getD, hi] at h
  exact h
theorem am_oc0 {y : Nat} (h1 : 0 ≤ y) (h2 : y < 28) : (am_PT.getD y []).all (fun B => am_ckL am_PP am_YY y B.2) = true ∧ am_ent am_PP am_YY y = true := by
  rcases (show y = 0 ∨ y = 1 ∨ y = 2 ∨ y = 3 ∨ y = 4 ∨ y = 5 ∨ y = 6 ∨ y = 7 ∨ y = 8 ∨ y = 9 ∨ y = 10 ∨ y = 11 ∨ y = 12 ∨ y = 13 ∨ y = 14 ∨ y = 15 ∨ y = 16 ∨ y = 17 ∨ y = 18 ∨ y = 19 ∨ y = 20 ∨ y = 21 ∨ y = 22 ∨ y = 23 ∨ y = 24 ∨ y = 25 ∨ y = 26 ∨ y = 27 by omega) with rfl | rfl | rfl | rfl | rfl | rfl | rfl | rfl | rfl | rfl | rfl | rfl | rfl | rfl | rfl | rfl | rfl | rfl | rfl | rfl | rfl | rfl | rfl | rfl | rfl | rfl | rfl | rfl
  · exact ⟨am_kc0, am_ke0⟩
  · exact ⟨am_kc1, am_ke1⟩
  · exact ⟨am_kc2, am_ke2⟩
  · exact ⟨am_kc3, am_ke3⟩
  · exact ⟨am_kc4, am_ke4⟩
  · exact ⟨am_kc5, am_ke5⟩
  · exact ⟨am_kc6, am_ke6⟩
  · exact ⟨am_kc7, am_ke7⟩
  · exact ⟨am_kc8, am_ke8⟩
  · exact ⟨am_kc9, am_ke9⟩
  · exact ⟨am_kc10, am_ke10⟩
  · exact ⟨am_kc11, am_ke11⟩
  · exact ⟨am_kc12, am_ke12⟩
  · exact ⟨am_kc13, am_ke13⟩
  · exact ⟨am_kc14, am_ke14⟩
  · exact ⟨am_kc15, am_ke15⟩
  · exact ⟨am_kc16, am_ke16⟩
  · exact ⟨am_kc17, am_ke17⟩
  · exact ⟨am_kc18, am_ke18⟩
  · exact ⟨am_kc19, am_ke19⟩
  · exact ⟨am_kc20, am_ke20⟩
  · exact ⟨am_kc21, am_ke21⟩
  · exact ⟨am_kc22, am_ke22⟩
  · exact ⟨am_kc23, am_ke23⟩
  · exact ⟨am_kc24, am_ke24⟩
  · exact ⟨am_kc25, am_ke25⟩
  · exact ⟨am_kc26, am_ke26⟩
  · exact ⟨am_kc27, am_ke27⟩
theorem am_oc28 {y : Nat} (h1 : 28 ≤ y) (h2 : y < 56) : (am_PT.getD y []).all (fun B => am_ckL am_PP am_YY y B.2) = true ∧ am_ent am_PP am_YY y = true := by
  rcases (show y = 28 ∨ y = 29 ∨ y = 30 ∨ y = 31 ∨ y = 32 ∨ y = 33 ∨ y = 34 ∨ y = 35 ∨ y = 36 ∨ y = 37 ∨ y = 38 ∨ y = 39 ∨ y = 40 ∨ y = 41 ∨ y = 42 ∨ y = 43 ∨ y = 44 ∨ y = 45 ∨ y = 46 ∨ y = 47 ∨ y = 48 ∨ y = 49 ∨ y = 50 ∨ y = 51 ∨ y = 52 ∨ y = 53 ∨ y = 54 ∨ y = 55 by omega) with rfl | rfl | rfl | rfl | rfl | rfl | rfl | rfl | rfl | rfl | rfl | rfl | rfl | rfl | rfl | rfl | rfl | rfl | rfl | rfl | rfl | rfl | rfl | rfl | rfl | rfl | rfl | rfl
  · exact ⟨am_kc28, am_ke28⟩
  · exact ⟨am_kc29, am_ke29⟩
  · exact ⟨am_kc30, am_ke30⟩
  · exact ⟨am_kc31, am_ke31⟩
  · exact ⟨am_kc32, am_ke32⟩
  · exact ⟨am_kc33, am_ke33⟩
  · exact ⟨am_kc34, am_ke34⟩
  · exact ⟨am_kc35, am_ke35⟩
  · exact ⟨am_kc36, am_ke36⟩
  · exact ⟨am_kc37, am_ke37⟩
  · exact ⟨am_kc38, am_ke38⟩
  · exact ⟨am_kc39, am_ke39⟩
  · exact ⟨am_kc40, am_ke40⟩
  · exact ⟨am_kc41, am_ke41⟩
  · exact ⟨am_kc42, am_ke42⟩
  · exact ⟨am_kc43, am_ke43⟩
  · exact ⟨am_kc44, am_ke44⟩
  · exact ⟨am_kc45, am_ke45⟩
  · exact ⟨am_kc46, am_ke46⟩
  · exact ⟨am_kc47, am_ke47⟩
  · exact ⟨am_kc48, am_ke48⟩
  · exact ⟨am_kc49, am_ke49⟩
  · exact ⟨am_kc50, am_ke50⟩
  · exact ⟨am_kc51, am_ke51⟩
  · exact ⟨am_kc52, am_ke52⟩
  · exact ⟨am_kc53, am_ke53⟩
  · exact ⟨am_kc54, am_ke54⟩
  · exact ⟨am_kc55, am_ke55⟩
theorem am_oc56 {y : Nat} (h1 : 56 ≤ y) (h2 : y < 84) : (am_PT.getD y []).all (fun B => am_ckL am_PP am_YY y B.2) = true ∧ am_ent am_PP am_YY y = true := by
  rcases (show y = 56 ∨ y = 57 ∨ y = 58 ∨ y = 59 ∨ y = 60 ∨ y = 61 ∨ y = 62 ∨ y = 63 ∨ y = 64 ∨ y = 65 ∨ y = 66 ∨ y = 67 ∨ y = 68 ∨ y = 69 ∨ y = 70 ∨ y = 71 ∨ y = 72 ∨ y = 73 ∨ y = 74 ∨ y = 75 ∨ y = 76 ∨ y = 77 ∨ y = 78 ∨ y = 79 ∨ y = 80 ∨ y = 81 ∨ y = 82 ∨ y = 83 by omega) with rfl | rfl | rfl | rfl | rfl | rfl | rfl | rfl | rfl | rfl | rfl | rfl | rfl | rfl | rfl | rfl | rfl | rfl | rfl | rfl | rfl | rfl | rfl | rfl | rfl | rfl | rfl | rfl
  · exact ⟨am_kc56, am_ke56⟩
  · exact ⟨am_kc57, am_ke57⟩
  · exact ⟨am_kc58, am_ke58⟩
  · exact ⟨am_kc59, am_ke59⟩
  · exact ⟨am_kc60, am_ke60⟩
  · exact ⟨am_kc61, am_ke61⟩
  · exact ⟨am_kc62, am_ke62⟩
  · exact ⟨am_kc63, am_ke63⟩
  · exact ⟨am_kc64, am_ke64⟩
  · exact ⟨am_kc65, am_ke65⟩
  · exact ⟨am_kc66, am_ke66⟩
  · exact ⟨am_kc67, am_ke67⟩
  · exact ⟨am_kc68, am_ke68⟩
  · exact ⟨am_kc69, am_ke69⟩
  · exact ⟨am_kc70, am_ke70⟩
  · exact ⟨am_kc71, am_ke71⟩
  · exact ⟨am_kc72, am_ke72⟩
  · exact ⟨am_kc73, am_ke73⟩
  · exact ⟨am_kc74, am_ke74⟩
  · exact ⟨am_kc75, am_ke75⟩
  · exact ⟨am_kc76, am_ke76⟩
  · exact ⟨am_kc77, am_ke77⟩
  · exact ⟨am_kc78, am_ke78⟩
  · exact ⟨am_kc79, am_ke79⟩
  · exact ⟨am_kc80, am_ke80⟩
  · exact ⟨am_kc81, am_ke81⟩
  · exact ⟨am_kc82, am_ke82⟩
  · exact ⟨am_kc83, am_ke83⟩
theorem am_oc84 {y : Nat} (h1 : 84 ≤ y) (h2 : y < 112) : (am_PT.getD y []).all (fun B => am_ckL am_PP am_YY y B.2) = true ∧ am_ent am_PP am_YY y = true := by
  rcases (show y = 84 ∨ y = 85 ∨ y = 86 ∨ y = 87 ∨ y = 88 ∨ y = 89 ∨ y = 90 ∨ y = 91 ∨ y = 92 ∨ y = 93 ∨ y = 94 ∨ y = 95 ∨ y = 96 ∨ y = 97 ∨ y = 98 ∨ y = 99 ∨ y = 100 ∨ y = 101 ∨ y = 102 ∨ y = 103 ∨ y = 104 ∨ y = 105 ∨ y = 106 ∨ y = 107 ∨ y = 108 ∨ y = 109 ∨ y = 110 ∨ y = 111 by omega) with rfl | rfl | rfl | rfl | rfl | rfl | rfl | rfl | rfl | rfl | rfl | rfl | rfl | rfl | rfl | rfl | rfl | rfl | rfl | rfl | rfl | rfl | rfl | rfl | rfl | rfl | rfl | rfl
  · exact ⟨am_kc84, am_ke84⟩
  · exact ⟨am_kc85, am_ke85⟩
  · exact ⟨am_kc86, am_ke86⟩
  · exact ⟨am_kc87, am_ke87⟩
  · exact ⟨am_kc88, am_ke88⟩
  · exact ⟨am_kc89, am_ke89⟩
  · exact ⟨am_kc90, am_ke90⟩
  · exact ⟨am_kc91, am_ke91⟩
  · exact ⟨am_kc92, am_ke92⟩
  · exact ⟨am_kc93, am_ke93⟩
  · exact ⟨am_kc94, am_ke94⟩
  · exact ⟨am_kc95, am_ke95⟩
  · exact ⟨am_kc96, am_ke96⟩
  · exact ⟨am_kc97, am_ke97⟩
  · exact ⟨am_kc98, am_ke98⟩
  · exact ⟨am_kc99, am_ke99⟩
  · exact ⟨am_kc100, am_ke100⟩
  · exact ⟨am_kc101, am_ke101⟩
  · exact ⟨am_kc102, am_ke102⟩
  · exact ⟨am_kc103, am_ke103⟩
  · exact ⟨am_kc104, am_ke104⟩
  · exact ⟨am_kc105, am_ke105⟩
  · exact ⟨am_kc106, am_ke106⟩
  · exact ⟨am_kc107, am_ke107⟩
  · exact ⟨am_kc108, am_ke108⟩
  · exact ⟨am_kc109, am_ke109⟩
  · exact ⟨am_kc110, am_ke110⟩
  · exact ⟨am_kc111, am_ke111⟩
theorem am_oc112 {y : Nat} (h1 : 112 ≤ y) (h2 : y < 140) : (am_PT.getD y []).all (fun B => am_ckL am_PP am_YY y B.2) = true ∧ am_ent am_PP am_YY y = true := by
  rcases (show y = 112 ∨ y = 113 ∨ y = 114 ∨ y = 115 ∨ y = 116 ∨ y = 117 ∨ y = 118 ∨ y = 119 ∨ y = 120 ∨ y = 121 ∨ y = 122 ∨ y = 123 ∨ y = 124 ∨ y = 125 ∨ y = 126 ∨ y = 127 ∨ y = 128 ∨ y = 129 ∨ y = 130 ∨ y = 131 ∨ y = 132 ∨ y = 133 ∨ y = 134 ∨ y = 135 ∨ y = 136 ∨ y = 137 ∨ y = 138 ∨ y = 139 by omega) with rfl | rfl | rfl | rfl | rfl | rfl | rfl | rfl | rfl | rfl | rfl | rfl | rfl | rfl | rfl | rfl | rfl | rfl | rfl | rfl | rfl | rfl | rfl | rfl | rfl | rfl | rfl | rfl
  · exact ⟨am_kc112, am_ke112⟩
  · exact ⟨am_kc113, am_ke113⟩
  · exact ⟨am_kc114, am_ke114⟩
  · exact ⟨am_kc115, am_ke115⟩
  · exact ⟨am_kc116, am_ke116⟩
  · exact ⟨am_kc117, am_ke117⟩
  · exact ⟨am_kc118, am_ke118⟩
  · exact ⟨am_kc119, am_ke119⟩
  · exact ⟨am_kc120, am_ke120⟩
  · exact ⟨am_kc121, am_ke121⟩
  · exact ⟨am_kc122, am_ke122⟩
  · exact ⟨am_kc123, am_ke123⟩
  · exact ⟨am_kc124, am_ke124⟩
  · exact ⟨am_kc125, am_ke125⟩
  · exact ⟨am_kc126, am_ke126⟩
  · exact ⟨am_kc127, am_ke127⟩
  · exact ⟨am_kc128, am_ke128⟩
  · exact ⟨am_kc129, am_ke129⟩
  · exact ⟨am_kc130, am_ke130⟩
  · exact ⟨am_kc131, am_ke131⟩
  · exact ⟨am_kc132, am_ke132⟩
  · exact ⟨am_kc133, am_ke133⟩
  · exact ⟨am_kc134, am_ke134⟩
  · exact ⟨am_kc135, am_ke135⟩
  · exact ⟨am_kc136, am_ke136⟩
  · exact ⟨am_kc137, am_ke137⟩
  · exact ⟨am_kc138, am_ke138⟩
  · exact ⟨am_kc139, am_ke139⟩
theorem am_oc140 {y : Nat} (h1 : 140 ≤ y) (h2 : y < 168) : (am_PT.getD y []).all (fun B => am_ckL am_PP am_YY y B.2) = true ∧ am_ent am_PP am_YY y = true := by
  rcases (show y = 140 ∨ y = 141 ∨ y = 142 ∨ y = 143 ∨ y = 144 ∨ y = 145 ∨ y = 146 ∨ y = 147 ∨ y = 148 ∨ y = 149 ∨ y = 150 ∨ y = 151 ∨ y = 152 ∨ y = 153 ∨ y = 154 ∨ y = 155 ∨ y = 156 ∨ y = 157 ∨ y = 158 ∨ y = 159 ∨ y = 160 ∨ y = 161 ∨ y = 162 ∨ y = 163 ∨ y = 164 ∨ y = 165 ∨ y = 166 ∨ y = 167 by omega) with rfl | rfl | rfl | rfl | rfl | rfl | rfl | rfl | rfl | rfl | rfl | rfl | rfl | rfl | rfl | rfl | rfl | rfl | rfl | rfl | rfl | rfl | rfl | rfl | rfl | rfl | rfl | rfl
  · exact ⟨am_kc140, am_ke140⟩
  · exact ⟨am_kc141, am_ke141⟩
  · exact ⟨am_kc142, am_ke142⟩
  · exact ⟨am_kc143, am_ke143⟩
  · exact ⟨am_kc144, am_ke144⟩
  · exact ⟨am_kc145, am_ke145⟩
  · exact ⟨am_kc146, am_ke146⟩
  · exact ⟨am_kc147, am_ke147⟩
  · exact ⟨am_kc148, am_ke148⟩
  · exact ⟨am_kc149, am_ke149⟩
  · exact ⟨am_kc150, am_ke150⟩
  · exact ⟨am_kc151, am_ke151⟩
  · exact ⟨am_kc152, am_ke152⟩
  · exact ⟨am_kc153, am_ke153⟩
  · exact ⟨am_kc154, am_ke154⟩
  · exact ⟨am_kc155, am_ke155⟩
  · exact ⟨am_kc156, am_ke156⟩
  · exact ⟨am_kc157, am_ke157⟩
  · exact ⟨am_kc158, am_ke158⟩
  · exact ⟨am_kc159, am_ke159⟩
  · exact ⟨am_kc160, am_ke160⟩
  · exact ⟨am_kc161, am_ke161⟩
  · exact ⟨am_kc162, am_ke162⟩
  · exact ⟨am_kc163, am_ke163⟩
  · exact ⟨am_kc164, am_ke164⟩
  · exact ⟨am_kc165, am_ke165⟩
  · exact ⟨am_kc166, am_ke166⟩
  · exact ⟨am_kc167, am_ke167⟩
theorem am_oc_all {y : Nat} (h : y < 168) : (am_PT.getD y []).all (fun B => am_ckL am_PP am_YY y B.2) = true ∧ am_ent am_PP am_YY y = true := by
  by_cases h28 : y < 28
  · exact am_oc0 (by omega) h28
  by_cases h56 : y < 56
  · exact am_oc28 (by omega) h56
  by_cases h84 : y < 84
  · exact am_oc56 (by omega) h84
  by_cases h112 : y < 112
  · exact am_oc84 (by omega) h112
  by_cases h140 : y < 140
  · exact am_oc112 (by omega) h140
  exact am_oc140 (by omega) h
theorem am_okPP : am_okP am_PP am_YY := by
  refine ⟨fun y b => ?_, fun y => ?_⟩
  · by_cases h : y < 168
    · have h1 := (am_oc_all h).1
      show am_ckL am_PP am_YY y (((am_PT.getD y []).getD b ([], [])).2) = true
      rw [List.getD_eq_getElem?_getD]
      cases hb : (am_PT.getD y [])[b]? with
      | none => rfl
      | some B => exact List.all_eq_true.mp h1 B (List.mem_of_getElem? hb)
    · have e : am_PT.getD y [] = [] := by
        rw [List.getD_eq_getElem?_getD, List.getElem?_eq_none (by show 168 ≤ y; omega)]
        rfl
      show am_ckL am_PP am_YY y (((am_PT.getD y []).getD b ([], [])).2) = true
      rw [e]
      rfl
  · by_cases h : y < 168
    · exact Or.inr (am_oc_all h).2
    · refine Or.inl ?_
      have e : am_PT.getD y [] = [] := by
        rw [List.getD_eq_getElem?_getD, List.getElem?_eq_none (by show 168 ≤ y; omega)]
        rfl
      show ((am_PT.getD y []).getD 0 ([], [])).2 = []
      rw [e]
      rfl
