theorem am_kc140 : (am_PT.getD 140 []).all (fun B => am_ckL am_PP am_YY 140 B.2) = true := by decide +kernel
theorem am_ke140 : am_ent am_PP am_YY 140 = true := by decide +kernel
theorem am_kc141 : (am_PT.getD 141 []).all (fun B => am_ckL am_PP am_YY 141 B.2) = true := by decide +kernel
theorem am_ke141 : am_ent am_PP am_YY 141 = true := by decide +kernel
theorem am_kc142 : (am_PT.getD 142 []).all (fun B => am_ckL am_PP am_YY 142 B.2) = true := by decide +kernel
theorem am_ke142 : am_ent am_PP am_YY 142 = true := by decide +kernel
theorem am_kc143 : (am_PT.getD 143 []).all (fun B => am_ckL am_PP am_YY 143 B.2) = true := by decide +kernel
theorem am_ke143 : am_ent am_PP am_YY 143 = true := by decide +kernel
theorem am_kc144 : (am_PT.getD 144 []).all (fun B => am_ckL am_PP am_YY 144 B.2) = true := by decide +kernel
theorem am_ke144 : am_ent am_PP am_YY 144 = true := by decide +kernel
theorem am_kc145 : (am_PT.getD 145 []).all (fun B => am_ckL am_PP am_YY 145 B.2) = true := by decide +kernel
theorem am_ke145 : am_ent am_PP am_YY 145 = true := by decide +kernel
theorem am_kc146 : (am_PT.getD 146 []).all (fun B => am_ckL am_PP am_YY 146 B.2) = true := by decide +kernel
theorem am_ke146 : am_ent am_PP am_YY 146 = true := by decide +kernel
theorem am_kc147 : (am_PT.getD 147 []).all (fun B => am_ckL am_PP am_YY 147 B.2) = true := by decide +kernel
theorem am_ke147 : am_ent am_PP am_YY 147 = true := by decide +kernel
theorem am_kc148 : (am_PT.getD 148 []).all (fun B => am_ckL am_PP am_YY 148 B.2) = true := by decide +kernel
theorem am_ke148 : am_ent am_PP am_YY 148 = true := by decide +kernel
theorem am_kc149 : (am_PT.getD 149 []).all (fun B => am_ckL am_PP am_YY 149 B.2) = true := by decide +kernel
theorem am_ke149 : am_ent am_PP am_YY 149 = true := by decide +kernel
theorem am_kc150 : (am_PT.getD 150 []).all (fun B => am_ckL am_PP am_YY 150 B.2) = true := by decide +kernel
theorem am_ke150 : am_ent am_PP am_YY 150 = true := by decide +kernel
theorem am_kc151 : (am_PT.getD 151 []).all (fun B => am_ckL am_PP am_YY 151 B.2) = true := by decide +kernel
theorem am_ke151 : am_ent am_PP am_YY 151 = true := by decide +kernel
theorem am_kc152 : (am_PT.getD 152 []).all (fun B => am_ckL am_PP am_YY 152 B.2) = true := by decide +kernel
theorem am_ke152 : am_ent am_PP am_YY 152 = true := by decide +kernel
theorem am_kc153 : (am_PT.getD 153 []).all (fun B => am_ckL am_PP am_YY 153 B.2) = true := by decide +kernel
theorem am_ke153 : am_ent am_PP am_YY 153 = true := by decide +kernel
theorem am_kc154 : (am_PT.getD 154 []).all (fun B => am_ckL am_PP am_YY 154 B.2) = true := by decide +kernel
theorem am_ke154 : am_ent am_PP am_YY 154 = true := by decide +kernel
theorem am_kc155 : (am_PT.getD 155 []).all (fun B => am_ckL am_PP am_YY 155 B.2) = true := by decide +kernel
theorem am_ke155 : am_ent am_PP am_YY 155 = true := by decide +kernel
theorem am_kc156 : (am_PT.getD 156 []).all (fun B => am_ckL am_PP am_YY 156 B.2) = true := by decide +kernel
theorem am_ke156 : am_ent am_PP am_YY 156 = true := by decide +kernel
theorem am_kc157 : (am_PT.getD 157 []).all (fun B => am_ckL am_PP am_YY 157 B.2) = true := by decide +kernel
theorem am_ke157 : am_ent am_PP am_YY 157 = true := by decide +kernel
theorem am_kc158 : (am_PT.getD 158 []).all (fun B => am_ckL am_PP am_YY 158 B.2) = true := by decide +kernel
theorem am_ke158 : am_ent am_PP am_YY 158 = true := by decide +kernel
theorem am_kc159 : (am_PT.getD 159 []).all (fun B => am_ckL am_PP am_YY 159 B.2) = true := by decide +kernel
theorem am_ke159 : am_ent am_PP am_YY 159 = true := by decide +kernel
theorem am_kc160 : (am_PT.getD 160 []).all (fun B => am_ckL am_PP am_YY 160 B.2) = true := by decide +kernel
theorem am_ke160 : am_ent am_PP am_YY 160 = true := by decide +kernel
theorem am_kc161 : (am_PT.getD 161 []).all (fun B => am_ckL am_PP am_YY 161 B.2) = true := by decide +kernel
theorem am_ke161 : am_ent am_PP am_YY 161 = true := by decide +kernel
theorem am_kc162 : (am_PT.getD 162 []).all (fun B => am_ckL am_PP am_YY 162 B.2) = true := by decide +kernel
theorem am_ke162 : am_ent am_PP am_YY 162 = true := by decide +kernel
theorem am_kc163 : (am_PT.getD 163 []).all (fun B => am_ckL am_PP am_YY 163 B.2) = true := by decide +kernel
theorem am_ke163 : am_ent am_PP am_YY 163 = true := by decide +kernel
theorem am_kc164 : (am_PT.getD 164 []).all (fun B => am_ckL am_PP am_YY 164 B.2) = true := by decide +kernel
theorem am_ke164 : am_ent am_PP am_YY 164 = true := by decide +kernel
theorem am_kc165 : (am_PT.getD 165 []).all (fun B => am_ckL am_PP am_YY 165 B.2) = true := by decide +kernel
theorem am_ke165 : am_ent am_PP am_YY 165 = true := by decide +kernel
theorem am_kc166 : (am_PT.getD 166 []).all (fun B => am_ckL am_PP am_YY 166 B.2) = true := by decide +kernel
theorem am_ke166 : am_ent am_PP am_YY 166 = true := by decide +kernel
theorem am_ke167 : am_ent am_PP am_YY 167 = true := by decide +kernel
