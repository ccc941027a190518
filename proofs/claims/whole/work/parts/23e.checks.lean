theorem am_kc112 : (am_PT.getD 112 []).all (fun B => am_ckL am_PP am_YY 112 B.2) = true := by decide +kernel
theorem am_ke112 : am_ent am_PP am_YY 112 = true := by decide +kernel
theorem am_kc113 : (am_PT.getD 113 []).all (fun B => am_ckL am_PP am_YY 113 B.2) = true := by decide +kernel
theorem am_ke113 : am_ent am_PP am_YY 113 = true := by decide +kernel
theorem am_kc114 : (am_PT.getD 114 []).all (fun B => am_ckL am_PP am_YY 114 B.2) = true := by decide +kernel
theorem am_ke114 : am_ent am_PP am_YY 114 = true := by decide +kernel
theorem am_kc115 : (am_PT.getD 115 []).all (fun B => am_ckL am_PP am_YY 115 B.2) = true := by decide +kernel
theorem am_ke115 : am_ent am_PP am_YY 115 = true := by decide +kernel
theorem am_kc116 : (am_PT.getD 116 []).all (fun B => am_ckL am_PP am_YY 116 B.2) = true := by decide +kernel
theorem am_ke116 : am_ent am_PP am_YY 116 = true := by decide +kernel
theorem am_kc117 : (am_PT.getD 117 []).all (fun B => am_ckL am_PP am_YY 117 B.2) = true := by decide +kernel
theorem am_ke117 : am_ent am_PP am_YY 117 = true := by decide +kernel
theorem am_kc118 : (am_PT.getD 118 []).all (fun B => am_ckL am_PP am_YY 118 B.2) = true := by decide +kernel
theorem am_ke118 : am_ent am_PP am_YY 118 = true := by decide +kernel
theorem am_kc119 : (am_PT.getD 119 []).all (fun B => am_ckL am_PP am_YY 119 B.2) = true := by decide +kernel
theorem am_ke119 : am_ent am_PP am_YY 119 = true := by decide +kernel
theorem am_kc120 : (am_PT.getD 120 []).all (fun B => am_ckL am_PP am_YY 120 B.2) = true := by decide +kernel
theorem am_ke120 : am_ent am_PP am_YY 120 = true := by decide +kernel
theorem am_kc121 : (am_PT.getD 121 []).all (fun B => am_ckL am_PP am_YY 121 B.2) = true := by decide +kernel
theorem am_ke121 : am_ent am_PP am_YY 121 = true := by decide +kernel
theorem am_kc122 : (am_PT.getD 122 []).all (fun B => am_ckL am_PP am_YY 122 B.2) = true := by decide +kernel
theorem am_ke122 : am_ent am_PP am_YY 122 = true := by decide +kernel
theorem am_kc123 : (am_PT.getD 123 []).all (fun B => am_ckL am_PP am_YY 123 B.2) = true := by decide +kernel
theorem am_ke123 : am_ent am_PP am_YY 123 = true := by decide +kernel
theorem am_kc124 : (am_PT.getD 124 []).all (fun B => am_ckL am_PP am_YY 124 B.2) = true := by decide +kernel
theorem am_ke124 : am_ent am_PP am_YY 124 = true := by decide +kernel
theorem am_kc125 : (am_PT.getD 125 []).all (fun B => am_ckL am_PP am_YY 125 B.2) = true := by decide +kernel
theorem am_ke125 : am_ent am_PP am_YY 125 = true := by decide +kernel
theorem am_kc126 : (am_PT.getD 126 []).all (fun B => am_ckL am_PP am_YY 126 B.2) = true := by decide +kernel
theorem am_ke126 : am_ent am_PP am_YY 126 = true := by decide +kernel
theorem am_kc127 : (am_PT.getD 127 []).all (fun B => am_ckL am_PP am_YY 127 B.2) = true := by decide +kernel
theorem am_ke127 : am_ent am_PP am_YY 127 = true := by decide +kernel
theorem am_kc128 : (am_PT.getD 128 []).all (fun B => am_ckL am_PP am_YY 128 B.2) = true := by decide +kernel
theorem am_ke128 : am_ent am_PP am_YY 128 = true := by decide +kernel
theorem am_kc129 : (am_PT.getD 129 []).all (fun B => am_ckL am_PP am_YY 129 B.2) = true := by decide +kernel
theorem am_ke129 : am_ent am_PP am_YY 129 = true := by decide +kernel
theorem am_kc130 : (am_PT.getD 130 []).all (fun B => am_ckL am_PP am_YY 130 B.2) = true := by decide +kernel
theorem am_ke130 : am_ent am_PP am_YY 130 = true := by decide +kernel
theorem am_kc131 : (am_PT.getD 131 []).all (fun B => am_ckL am_PP am_YY 131 B.2) = true := by decide +kernel
theorem am_ke131 : am_ent am_PP am_YY 131 = true := by decide +kernel
theorem am_kc132 : (am_PT.getD 132 []).all (fun B => am_ckL am_PP am_YY 132 B.2) = true := by decide +kernel
theorem am_ke132 : am_ent am_PP am_YY 132 = true := by decide +kernel
theorem am_kc133 : (am_PT.getD 133 []).all (fun B => am_ckL am_PP am_YY 133 B.2) = true := by decide +kernel
theorem am_ke133 : am_ent am_PP am_YY 133 = true := by decide +kernel
theorem am_kc134 : (am_PT.getD 134 []).all (fun B => am_ckL am_PP am_YY 134 B.2) = true := by decide +kernel
theorem am_ke134 : am_ent am_PP am_YY 134 = true := by decide +kernel
theorem am_kc135 : (am_PT.getD 135 []).all (fun B => am_ckL am_PP am_YY 135 B.2) = true := by decide +kernel
theorem am_ke135 : am_ent am_PP am_YY 135 = true := by decide +kernel
theorem am_kc136 : (am_PT.getD 136 []).all (fun B => am_ckL am_PP am_YY 136 B.2) = true := by decide +kernel
theorem am_ke136 : am_ent am_PP am_YY 136 = true := by decide +kernel
theorem am_kc137 : (am_PT.getD 137 []).all (fun B => am_ckL am_PP am_YY 137 B.2) = true := by decide +kernel
theorem am_ke137 : am_ent am_PP am_YY 137 = true := by decide +kernel
theorem am_kc138 : (am_PT.getD 138 []).all (fun B => am_ckL am_PP am_YY 138 B.2) = true := by decide +kernel
theorem am_ke138 : am_ent am_PP am_YY 138 = true := by decide +kernel
theorem am_kc139 : (am_PT.getD 139 []).all (fun B => am_ckL am_PP am_YY 139 B.2) = true := by decide +kernel
theorem am_ke139 : am_ent am_PP am_YY 139 = true := by decide +kernel
