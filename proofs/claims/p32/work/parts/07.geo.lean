theorem mo_in_X0 : ∀ w ∈ u_ws RX0 TX0 8, w ∈ mo_B := by
  intro w hw
  obtain ⟨k, hk, rfl⟩ := List.mem_map.mp hw
  have hk : k < 8 := List.mem_range.mp hk
  match k, hk with
  | 0, _ => exact mo_tb1 153 rfl rfl
  | 1, _ => exact mo_tb1 155 rfl rfl
  | 2, _ => exact mo_tb1 157 rfl rfl
  | 3, _ => exact mo_tb1 159 rfl rfl
  | 4, _ => exact mo_tb1 161 rfl rfl
  | 5, _ => exact mo_tb1 163 rfl rfl
  | 6, _ => exact mo_tb1 165 rfl rfl
  | 7, _ => exact mo_tb1 167 rfl rfl
  | k + 8, hk => exact absurd hk (by omega)
theorem mo_in_X1 : ∀ w ∈ u_ws RX1 TX1 1, w ∈ mo_B := by
  intro w hw
  obtain ⟨k, hk, rfl⟩ := List.mem_map.mp hw
  have hk : k < 1 := List.mem_range.mp hk
  match k, hk with
  | 0, _ => exact mo_tb1 35 rfl rfl
  | k + 1, hk => exact absurd hk (by omega)
theorem mo_in_X2 : ∀ w ∈ u_ws RX2 TX2 15, w ∈ mo_B := by
  intro w hw
  obtain ⟨k, hk, rfl⟩ := List.mem_map.mp hw
  have hk : k < 15 := List.mem_range.mp hk
  match k, hk with
  | 0, _ => exact mo_tb1 74 rfl rfl
  | 1, _ => exact mo_tb1 76 rfl rfl
  | 2, _ => exact mo_tb1 78 rfl rfl
  | 3, _ => exact mo_tb1 80 rfl rfl
  | 4, _ => exact mo_tb1 82 rfl rfl
  | 5, _ => exact mo_tb1 84 rfl rfl
  | 6, _ => exact mo_tb1 86 rfl rfl
  | 7, _ => exact mo_tb1 88 rfl rfl
  | 8, _ => exact mo_tb1 90 rfl rfl
  | 9, _ => exact mo_tb1 92 rfl rfl
  | 10, _ => exact mo_tb1 94 rfl rfl
  | 11, _ => exact mo_tb1 96 rfl rfl
  | 12, _ => exact mo_tb1 98 rfl rfl
  | 13, _ => exact mo_tb1 100 rfl rfl
  | 14, _ => exact mo_tb1 102 rfl rfl
  | k + 15, hk => exact absurd hk (by omega)
theorem mo_in_X3 : ∀ w ∈ u_ws RX3 TX3 8, w ∈ mo_B := by
  intro w hw
  obtain ⟨k, hk, rfl⟩ := List.mem_map.mp hw
  have hk : k < 8 := List.mem_range.mp hk
  match k, hk with
  | 0, _ => exact mo_tb1 123 rfl rfl
  | 1, _ => exact mo_tb1 125 rfl rfl
  | 2, _ => exact mo_tb1 127 rfl rfl
  | 3, _ => exact mo_tb1 129 rfl rfl
  | 4, _ => exact mo_tb1 131 rfl rfl
  | 5, _ => exact mo_tb1 133 rfl rfl
  | 6, _ => exact mo_tb1 135 rfl rfl
  | 7, _ => exact mo_tb1 137 rfl rfl
  | k + 8, hk => exact absurd hk (by omega)
theorem mo_in_X4 : ∀ w ∈ u_ws RX4 TX4 6, w ∈ mo_B := by
  intro w hw
  obtain ⟨k, hk, rfl⟩ := List.mem_map.mp hw
  have hk : k < 6 := List.mem_range.mp hk
  match k, hk with
  | 0, _ => exact mo_tb1 176 rfl rfl
  | 1, _ => exact mo_tb1 178 rfl rfl
  | 2, _ => exact mo_tb1 180 rfl rfl
  | 3, _ => exact mo_tb1 182 rfl rfl
  | 4, _ => exact mo_tb1 184 rfl rfl
  | 5, _ => exact mo_tb1 186 rfl rfl
  | k + 6, hk => exact absurd hk (by omega)
section MOF
variable {κ : mo_T} {lf : Launch} {ρf : mo_E} {cc : ByteArray} {nL : Nat} {ret : Option FieldType} {d k n pc : Nat} {ls : List (Option Value)} {st : List Value} {G : mo_G} {M : mo_M} {t : Nat}
theorem mo_f_X0_14 (X : mo_Cx κ lf ρf cc nL RX0 ret d) {a : Nat} {q : Nat} (hd : decode cc pc = .ok (.getfield 14, 3)) (hG : G.1 a = some (.inl 0)) (hp : G.2 a 0 = some q) (kk : mo_V κ k n (pc + 3) ls (.ref q :: st) G M t) : mo_V κ k n pc ls (.ref a :: st) G M t := mo_gR X (ci := 0) (j := 0) rfl mo_in_X0 (by decide) (by decide) mo_wf_X0_14 rfl hd hG hp kk
theorem mo_f_X0_20 (X : mo_Cx κ lf ρf cc nL RX0 ret d) {a : Nat} {q : Nat} (hd : decode cc pc = .ok (.getfield 20, 3)) (hG : G.1 a = some (.inl 0)) (hp : G.2 a 1 = some q) (kk : mo_V κ k n (pc + 3) ls (.ref q :: st) G M t) : mo_V κ k n pc ls (.ref a :: st) G M t := mo_gR X (ci := 0) (j := 1) rfl mo_in_X0 (by decide) (by decide) mo_wf_X0_20 rfl hd hG hp kk
theorem mo_f_X0_23 (X : mo_Cx κ lf ρf cc nL RX0 ret d) {a : Nat} {q : Nat} (hd : decode cc pc = .ok (.getfield 23, 3)) (hG : G.1 a = some (.inl 0)) (hp : G.2 a 2 = some q) (kk : mo_V κ k n (pc + 3) ls (.ref q :: st) G M t) : mo_V κ k n pc ls (.ref a :: st) G M t := mo_gR X (ci := 0) (j := 2) rfl mo_in_X0 (by decide) (by decide) mo_wf_X0_23 rfl hd hG hp kk
theorem mo_f_X0_26 (X : mo_Cx κ lf ρf cc nL RX0 ret d) {a : Nat} {q : Nat} (hd : decode cc pc = .ok (.getfield 26, 3)) (hG : G.1 a = some (.inl 0)) (hp : G.2 a 3 = some q) (kk : mo_V κ k n (pc + 3) ls (.ref q :: st) G M t) : mo_V κ k n pc ls (.ref a :: st) G M t := mo_gR X (ci := 0) (j := 3) rfl mo_in_X0 (by decide) (by decide) mo_wf_X0_26 rfl hd hG hp kk
theorem mo_f_X0_29 (X : mo_Cx κ lf ρf cc nL RX0 ret d) {a : Nat} {q : Nat} (hd : decode cc pc = .ok (.getfield 29, 3)) (hG : G.1 a = some (.inl 0)) (hp : G.2 a 4 = some q) (kk : mo_V κ k n (pc + 3) ls (.ref q :: st) G M t) : mo_V κ k n pc ls (.ref a :: st) G M t := mo_gR X (ci := 0) (j := 4) rfl mo_in_X0 (by decide) (by decide) mo_wf_X0_29 rfl hd hG hp kk
theorem mo_f_X1_7 (X : mo_Cx κ lf ρf cc nL RX1 ret d) {a : Nat} {q : Nat} (hd : decode cc pc = .ok (.getfield 7, 3)) (hG : G.1 a = some (.inl 1)) (hp : G.2 a 0 = some q) (kk : mo_V κ k n (pc + 3) ls (.ref q :: st) G M t) : mo_V κ k n pc ls (.ref a :: st) G M t := mo_gR X (ci := 1) (j := 0) rfl mo_in_X1 (by decide) (by decide) mo_wf_X1_7 rfl hd hG hp kk
theorem mo_f_X2_14 (X : mo_Cx κ lf ρf cc nL RX2 ret d) {a : Nat} {q : Nat} (hd : decode cc pc = .ok (.getfield 14, 3)) (hG : G.1 a = some (.inl 2)) (hp : G.2 a 6 = some q) (kk : mo_V κ k n (pc + 3) ls (.ref q :: st) G M t) : mo_V κ k n pc ls (.ref a :: st) G M t := mo_gR X (ci := 2) (j := 6) rfl mo_in_X2 (by decide) (by decide) mo_wf_X2_14 rfl hd hG hp kk
theorem mo_f_X2_20 (X : mo_Cx κ lf ρf cc nL RX2 ret d) {a : Nat} {q : Nat} (hd : decode cc pc = .ok (.getfield 20, 3)) (hG : G.1 a = some (.inl 2)) (hp : G.2 a 7 = some q) (kk : mo_V κ k n (pc + 3) ls (.ref q :: st) G M t) : mo_V κ k n pc ls (.ref a :: st) G M t := mo_gR X (ci := 2) (j := 7) rfl mo_in_X2 (by decide) (by decide) mo_wf_X2_20 rfl hd hG hp kk
theorem mo_f_X2_23 (X : mo_Cx κ lf ρf cc nL RX2 ret d) {a : Nat} {q : Nat} (hd : decode cc pc = .ok (.getfield 23, 3)) (hG : G.1 a = some (.inl 2)) (hp : G.2 a 8 = some q) (kk : mo_V κ k n (pc + 3) ls (.ref q :: st) G M t) : mo_V κ k n pc ls (.ref a :: st) G M t := mo_gR X (ci := 2) (j := 8) rfl mo_in_X2 (by decide) (by decide) mo_wf_X2_23 rfl hd hG hp kk
theorem mo_f_X2_26 (X : mo_Cx κ lf ρf cc nL RX2 ret d) {a : Nat} {q : Nat} (hd : decode cc pc = .ok (.getfield 26, 3)) (hG : G.1 a = some (.inl 2)) (hp : G.2 a 9 = some q) (kk : mo_V κ k n (pc + 3) ls (.ref q :: st) G M t) : mo_V κ k n pc ls (.ref a :: st) G M t := mo_gR X (ci := 2) (j := 9) rfl mo_in_X2 (by decide) (by decide) mo_wf_X2_26 rfl hd hG hp kk
theorem mo_f_X2_29 (X : mo_Cx κ lf ρf cc nL RX2 ret d) {a : Nat} {q : Nat} (hd : decode cc pc = .ok (.getfield 29, 3)) (hG : G.1 a = some (.inl 2)) (hp : G.2 a 10 = some q) (kk : mo_V κ k n (pc + 3) ls (.ref q :: st) G M t) : mo_V κ k n pc ls (.ref a :: st) G M t := mo_gR X (ci := 2) (j := 10) rfl mo_in_X2 (by decide) (by decide) mo_wf_X2_29 rfl hd hG hp kk
theorem mo_f_X2_32 (X : mo_Cx κ lf ρf cc nL RX2 ret d) {a : Nat} {q : Nat} (hd : decode cc pc = .ok (.getfield 32, 3)) (hG : G.1 a = some (.inl 2)) (hp : G.2 a 11 = some q) (kk : mo_V κ k n (pc + 3) ls (.ref q :: st) G M t) : mo_V κ k n pc ls (.ref a :: st) G M t := mo_gR X (ci := 2) (j := 11) rfl mo_in_X2 (by decide) (by decide) mo_wf_X2_32 rfl hd hG hp kk
theorem mo_f_X2_35 (X : mo_Cx κ lf ρf cc nL RX2 ret d) {a : Nat} {q : Nat} (hd : decode cc pc = .ok (.getfield 35, 3)) (hG : G.1 a = some (.inl 2)) (hp : G.2 a 12 = some q) (kk : mo_V κ k n (pc + 3) ls (.ref q :: st) G M t) : mo_V κ k n pc ls (.ref a :: st) G M t := mo_gR X (ci := 2) (j := 12) rfl mo_in_X2 (by decide) (by decide) mo_wf_X2_35 rfl hd hG hp kk
theorem mo_f_X2_38 (X : mo_Cx κ lf ρf cc nL RX2 ret d) {a : Nat} {q : Nat} (hd : decode cc pc = .ok (.getfield 38, 3)) (hG : G.1 a = some (.inl 2)) (hp : G.2 a 13 = some q) (kk : mo_V κ k n (pc + 3) ls (.ref q :: st) G M t) : mo_V κ k n pc ls (.ref a :: st) G M t := mo_gR X (ci := 2) (j := 13) rfl mo_in_X2 (by decide) (by decide) mo_wf_X2_38 rfl hd hG hp kk
theorem mo_f_X2_41 (X : mo_Cx κ lf ρf cc nL RX2 ret d) {a : Nat} {q : Nat} (hd : decode cc pc = .ok (.getfield 41, 3)) (hG : G.1 a = some (.inl 2)) (hp : G.2 a 14 = some q) (kk : mo_V κ k n (pc + 3) ls (.ref q :: st) G M t) : mo_V κ k n pc ls (.ref a :: st) G M t := mo_gR X (ci := 2) (j := 14) rfl mo_in_X2 (by decide) (by decide) mo_wf_X2_41 rfl hd hG hp kk
theorem mo_f_X2_44 (X : mo_Cx κ lf ρf cc nL RX2 ret d) {a : Nat} (hd : decode cc pc = .ok (.getfield 44, 3)) (hG : G.1 a = some (.inl 2)) (kk : mo_V κ k n (pc + 3) ls (mo_iv (M a 0) :: st) G M t) : mo_V κ k n pc ls (.ref a :: st) G M t := mo_gI X (ci := 2) (j := 0) rfl mo_in_X2 (by decide) (by decide) mo_wf_X2_44 rfl hd hG kk
theorem mo_p_X2_44 (X : mo_Cx κ lf ρf cc nL RX2 ret d) {a : Nat} {x : Int} (hd : decode cc pc = .ok (.putfield 44, 3)) (hG : G.1 a = some (.inl 2)) (kk : mo_V κ k n (pc + 3) ls st G (mo_ur M a (va_up (M a) 0 x)) t) : mo_V κ k n pc ls (mo_iv x :: .ref a :: st) G M t := mo_pI X (ci := 2) (j := 0) rfl mo_in_X2 (by decide) (by decide) mo_wf_X2_44 rfl hd hG tyX2_ok nmX2 rfl rfl kk
theorem mo_f_X2_48 (X : mo_Cx κ lf ρf cc nL RX2 ret d) {a : Nat} (hd : decode cc pc = .ok (.getfield 48, 3)) (hG : G.1 a = some (.inl 2)) (kk : mo_V κ k n (pc + 3) ls (mo_iv (M a 1) :: st) G M t) : mo_V κ k n pc ls (.ref a :: st) G M t := mo_gI X (ci := 2) (j := 1) rfl mo_in_X2 (by decide) (by decide) mo_wf_X2_48 rfl hd hG kk
theorem mo_p_X2_48 (X : mo_Cx κ lf ρf cc nL RX2 ret d) {a : Nat} {x : Int} (hd : decode cc pc = .ok (.putfield 48, 3)) (hG : G.1 a = some (.inl 2)) (kk : mo_V κ k n (pc + 3) ls st G (mo_ur M a (va_up (M a) 1 x)) t) : mo_V κ k n pc ls (mo_iv x :: .ref a :: st) G M t := mo_pI X (ci := 2) (j := 1) rfl mo_in_X2 (by decide) (by decide) mo_wf_X2_48 rfl hd hG tyX2_ok nmX2 rfl rfl kk
theorem mo_f_X2_51 (X : mo_Cx κ lf ρf cc nL RX2 ret d) {a : Nat} (hd : decode cc pc = .ok (.getfield 51, 3)) (hG : G.1 a = some (.inl 2)) (kk : mo_V κ k n (pc + 3) ls (mo_iv (M a 2) :: st) G M t) : mo_V κ k n pc ls (.ref a :: st) G M t := mo_gI X (ci := 2) (j := 2) rfl mo_in_X2 (by decide) (by decide) mo_wf_X2_51 rfl hd hG kk
theorem mo_p_X2_51 (X : mo_Cx κ lf ρf cc nL RX2 ret d) {a : Nat} {x : Int} (hd : decode cc pc = .ok (.putfield 51, 3)) (hG : G.1 a = some (.inl 2)) (kk : mo_V κ k n (pc + 3) ls st G (mo_ur M a (va_up (M a) 2 x)) t) : mo_V κ k n pc ls (mo_iv x :: .ref a :: st) G M t := mo_pI X (ci := 2) (j := 2) rfl mo_in_X2 (by decide) (by decide) mo_wf_X2_51 rfl hd hG tyX2_ok nmX2 rfl rfl kk
theorem mo_f_X2_54 (X : mo_Cx κ lf ρf cc nL RX2 ret d) {a : Nat} (hd : decode cc pc = .ok (.getfield 54, 3)) (hG : G.1 a = some (.inl 2)) (kk : mo_V κ k n (pc + 3) ls (mo_iv (M a 3) :: st) G M t) : mo_V κ k n pc ls (.ref a :: st) G M t := mo_gI X (ci := 2) (j := 3) rfl mo_in_X2 (by decide) (by decide) mo_wf_X2_54 rfl hd hG kk
theorem mo_p_X2_54 (X : mo_Cx κ lf ρf cc nL RX2 ret d) {a : Nat} {x : Int} (hd : decode cc pc = .ok (.putfield 54, 3)) (hG : G.1 a = some (.inl 2)) (kk : mo_V κ k n (pc + 3) ls st G (mo_ur M a (va_up (M a) 3 x)) t) : mo_V κ k n pc ls (mo_iv x :: .ref a :: st) G M t := mo_pI X (ci := 2) (j := 3) rfl mo_in_X2 (by decide) (by decide) mo_wf_X2_54 rfl hd hG tyX2_ok nmX2 rfl rfl kk
theorem mo_f_X2_57 (X : mo_Cx κ lf ρf cc nL RX2 ret d) {a : Nat} (hd : decode cc pc = .ok (.getfield 57, 3)) (hG : G.1 a = some (.inl 2)) (kk : mo_V κ k n (pc + 3) ls (mo_iv (M a 4) :: st) G M t) : mo_V κ k n pc ls (.ref a :: st) G M t := mo_gI X (ci := 2) (j := 4) rfl mo_in_X2 (by decide) (by decide) mo_wf_X2_57 rfl hd hG kk
theorem mo_p_X2_57 (X : mo_Cx κ lf ρf cc nL RX2 ret d) {a : Nat} {x : Int} (hd : decode cc pc = .ok (.putfield 57, 3)) (hG : G.1 a = some (.inl 2)) (kk : mo_V κ k n (pc + 3) ls st G (mo_ur M a (va_up (M a) 4 x)) t) : mo_V κ k n pc ls (mo_iv x :: .ref a :: st) G M t := mo_pI X (ci := 2) (j := 4) rfl mo_in_X2 (by decide) (by decide) mo_wf_X2_57 rfl hd hG tyX2_ok nmX2 rfl rfl kk
theorem mo_f_X2_60 (X : mo_Cx κ lf ρf cc nL RX2 ret d) {a : Nat} (hd : decode cc pc = .ok (.getfield 60, 3)) (hG : G.1 a = some (.inl 2)) (kk : mo_V κ k n (pc + 3) ls (mo_iv (M a 5) :: st) G M t) : mo_V κ k n pc ls (.ref a :: st) G M t := mo_gI X (ci := 2) (j := 5) rfl mo_in_X2 (by decide) (by decide) mo_wf_X2_60 rfl hd hG kk
theorem mo_p_X2_60 (X : mo_Cx κ lf ρf cc nL RX2 ret d) {a : Nat} {x : Int} (hd : decode cc pc = .ok (.putfield 60, 3)) (hG : G.1 a = some (.inl 2)) (kk : mo_V κ k n (pc + 3) ls st G (mo_ur M a (va_up (M a) 5 x)) t) : mo_V κ k n pc ls (mo_iv x :: .ref a :: st) G M t := mo_pI X (ci := 2) (j := 5) rfl mo_in_X2 (by decide) (by decide) mo_wf_X2_60 rfl hd hG tyX2_ok nmX2 rfl rfl kk
theorem mo_f_X3_108 (X : mo_Cx κ lf ρf cc nL RX3 ret d) {a : Nat} (hd : decode cc pc = .ok (.getfield 108, 3)) (hG : G.1 a = some (.inl 3)) (kk : mo_V κ k n (pc + 3) ls (mo_iv (M a 5) :: st) G M t) : mo_V κ k n pc ls (.ref a :: st) G M t := mo_gI X (ci := 3) (j := 5) rfl mo_in_X3 (by decide) (by decide) mo_wf_X3_108 rfl hd hG kk
theorem mo_p_X3_108 (X : mo_Cx κ lf ρf cc nL RX3 ret d) {a : Nat} {x : Int} (hd : decode cc pc = .ok (.putfield 108, 3)) (hG : G.1 a = some (.inl 3)) (kk : mo_V κ k n (pc + 3) ls st G (mo_ur M a (va_up (M a) 5 x)) t) : mo_V κ k n pc ls (mo_iv x :: .ref a :: st) G M t := mo_pI X (ci := 3) (j := 5) rfl mo_in_X3 (by decide) (by decide) mo_wf_X3_108 rfl hd hG tyX3_ok nmX3 rfl rfl kk
theorem mo_f_X3_111 (X : mo_Cx κ lf ρf cc nL RX3 ret d) {a : Nat} (hd : decode cc pc = .ok (.getfield 111, 3)) (hG : G.1 a = some (.inl 3)) (kk : mo_V κ k n (pc + 3) ls (mo_iv (M a 6) :: st) G M t) : mo_V κ k n pc ls (.ref a :: st) G M t := mo_gI X (ci := 3) (j := 6) rfl mo_in_X3 (by decide) (by decide) mo_wf_X3_111 rfl hd hG kk
theorem mo_p_X3_111 (X : mo_Cx κ lf ρf cc nL RX3 ret d) {a : Nat} {x : Int} (hd : decode cc pc = .ok (.putfield 111, 3)) (hG : G.1 a = some (.inl 3)) (kk : mo_V κ k n (pc + 3) ls st G (mo_ur M a (va_up (M a) 6 x)) t) : mo_V κ k n pc ls (mo_iv x :: .ref a :: st) G M t := mo_pI X (ci := 3) (j := 6) rfl mo_in_X3 (by decide) (by decide) mo_wf_X3_111 rfl hd hG tyX3_ok nmX3 rfl rfl kk
theorem mo_f_X3_114 (X : mo_Cx κ lf ρf cc nL RX3 ret d) {a : Nat} (hd : decode cc pc = .ok (.getfield 114, 3)) (hG : G.1 a = some (.inl 3)) (kk : mo_V κ k n (pc + 3) ls (mo_iv (M a 7) :: st) G M t) : mo_V κ k n pc ls (.ref a :: st) G M t := mo_gI X (ci := 3) (j := 7) rfl mo_in_X3 (by decide) (by decide) mo_wf_X3_114 rfl hd hG kk
theorem mo_p_X3_114 (X : mo_Cx κ lf ρf cc nL RX3 ret d) {a : Nat} {x : Int} (hd : decode cc pc = .ok (.putfield 114, 3)) (hG : G.1 a = some (.inl 3)) (kk : mo_V κ k n (pc + 3) ls st G (mo_ur M a (va_up (M a) 7 x)) t) : mo_V κ k n pc ls (mo_iv x :: .ref a :: st) G M t := mo_pI X (ci := 3) (j := 7) rfl mo_in_X3 (by decide) (by decide) mo_wf_X3_114 rfl hd hG tyX3_ok nmX3 rfl rfl kk
theorem mo_f_X3_128 (X : mo_Cx κ lf ρf cc nL RX3 ret d) {a : Nat} (hd : decode cc pc = .ok (.getfield 128, 3)) (hG : G.1 a = some (.inl 2)) (kk : mo_V κ k n (pc + 3) ls (mo_iv (M a 1) :: st) G M t) : mo_V κ k n pc ls (.ref a :: st) G M t := mo_gI X (ci := 2) (j := 1) rfl mo_in_X2 (by decide) (by decide) mo_wf_X3_128 rfl hd hG kk
theorem mo_p_X3_128 (X : mo_Cx κ lf ρf cc nL RX3 ret d) {a : Nat} {x : Int} (hd : decode cc pc = .ok (.putfield 128, 3)) (hG : G.1 a = some (.inl 2)) (kk : mo_V κ k n (pc + 3) ls st G (mo_ur M a (va_up (M a) 1 x)) t) : mo_V κ k n pc ls (mo_iv x :: .ref a :: st) G M t := mo_pI X (ci := 2) (j := 1) rfl mo_in_X2 (by decide) (by decide) mo_wf_X3_128 rfl hd hG tyX2_ok nmX2 rfl rfl kk
theorem mo_f_X3_131 (X : mo_Cx κ lf ρf cc nL RX3 ret d) {a : Nat} (hd : decode cc pc = .ok (.getfield 131, 3)) (hG : G.1 a = some (.inl 2)) (kk : mo_V κ k n (pc + 3) ls (mo_iv (M a 2) :: st) G M t) : mo_V κ k n pc ls (.ref a :: st) G M t := mo_gI X (ci := 2) (j := 2) rfl mo_in_X2 (by decide) (by decide) mo_wf_X3_131 rfl hd hG kk
theorem mo_p_X3_131 (X : mo_Cx κ lf ρf cc nL RX3 ret d) {a : Nat} {x : Int} (hd : decode cc pc = .ok (.putfield 131, 3)) (hG : G.1 a = some (.inl 2)) (kk : mo_V κ k n (pc + 3) ls st G (mo_ur M a (va_up (M a) 2 x)) t) : mo_V κ k n pc ls (mo_iv x :: .ref a :: st) G M t := mo_pI X (ci := 2) (j := 2) rfl mo_in_X2 (by decide) (by decide) mo_wf_X3_131 rfl hd hG tyX2_ok nmX2 rfl rfl kk
theorem mo_f_X3_14 (X : mo_Cx κ lf ρf cc nL RX3 ret d) {a : Nat} {q : Nat} (hd : decode cc pc = .ok (.getfield 14, 3)) (hG : G.1 a = some (.inl 3)) (hp : G.2 a 0 = some q) (kk : mo_V κ k n (pc + 3) ls (.ref q :: st) G M t) : mo_V κ k n pc ls (.ref a :: st) G M t := mo_gR X (ci := 3) (j := 0) rfl mo_in_X3 (by decide) (by decide) mo_wf_X3_14 rfl hd hG hp kk
theorem mo_f_X3_20 (X : mo_Cx κ lf ρf cc nL RX3 ret d) {a : Nat} {q : Nat} (hd : decode cc pc = .ok (.getfield 20, 3)) (hG : G.1 a = some (.inl 3)) (hp : G.2 a 1 = some q) (kk : mo_V κ k n (pc + 3) ls (.ref q :: st) G M t) : mo_V κ k n pc ls (.ref a :: st) G M t := mo_gR X (ci := 3) (j := 1) rfl mo_in_X3 (by decide) (by decide) mo_wf_X3_20 rfl hd hG hp kk
theorem mo_f_X3_23 (X : mo_Cx κ lf ρf cc nL RX3 ret d) {a : Nat} {q : Nat} (hd : decode cc pc = .ok (.getfield 23, 3)) (hG : G.1 a = some (.inl 3)) (hp : G.2 a 2 = some q) (kk : mo_V κ k n (pc + 3) ls (.ref q :: st) G M t) : mo_V κ k n pc ls (.ref a :: st) G M t := mo_gR X (ci := 3) (j := 2) rfl mo_in_X3 (by decide) (by decide) mo_wf_X3_23 rfl hd hG hp kk
theorem mo_f_X3_26 (X : mo_Cx κ lf ρf cc nL RX3 ret d) {a : Nat} {q : Nat} (hd : decode cc pc = .ok (.getfield 26, 3)) (hG : G.1 a = some (.inl 3)) (hp : G.2 a 3 = some q) (kk : mo_V κ k n (pc + 3) ls (.ref q :: st) G M t) : mo_V κ k n pc ls (.ref a :: st) G M t := mo_gR X (ci := 3) (j := 3) rfl mo_in_X3 (by decide) (by decide) mo_wf_X3_26 rfl hd hG hp kk
theorem mo_f_X3_29 (X : mo_Cx κ lf ρf cc nL RX3 ret d) {a : Nat} {q : Nat} (hd : decode cc pc = .ok (.getfield 29, 3)) (hG : G.1 a = some (.inl 3)) (hp : G.2 a 4 = some q) (kk : mo_V κ k n (pc + 3) ls (.ref q :: st) G M t) : mo_V κ k n pc ls (.ref a :: st) G M t := mo_gR X (ci := 3) (j := 4) rfl mo_in_X3 (by decide) (by decide) mo_wf_X3_29 rfl hd hG hp kk
theorem mo_f_X3_35 (X : mo_Cx κ lf ρf cc nL RX3 ret d) {a : Nat} (hd : decode cc pc = .ok (.getfield 35, 3)) (hG : G.1 a = some (.inl 2)) (kk : mo_V κ k n (pc + 3) ls (mo_iv (M a 3) :: st) G M t) : mo_V κ k n pc ls (.ref a :: st) G M t := mo_gI X (ci := 2) (j := 3) rfl mo_in_X2 (by decide) (by decide) mo_wf_X3_35 rfl hd hG kk
theorem mo_p_X3_35 (X : mo_Cx κ lf ρf cc nL RX3 ret d) {a : Nat} {x : Int} (hd : decode cc pc = .ok (.putfield 35, 3)) (hG : G.1 a = some (.inl 2)) (kk : mo_V κ k n (pc + 3) ls st G (mo_ur M a (va_up (M a) 3 x)) t) : mo_V κ k n pc ls (mo_iv x :: .ref a :: st) G M t := mo_pI X (ci := 2) (j := 3) rfl mo_in_X2 (by decide) (by decide) mo_wf_X3_35 rfl hd hG tyX2_ok nmX2 rfl rfl kk
theorem mo_f_X3_60 (X : mo_Cx κ lf ρf cc nL RX3 ret d) {a : Nat} {q : Nat} (hd : decode cc pc = .ok (.getfield 60, 3)) (hG : G.1 a = some (.inl 2)) (hp : G.2 a 7 = some q) (kk : mo_V κ k n (pc + 3) ls (.ref q :: st) G M t) : mo_V κ k n pc ls (.ref a :: st) G M t := mo_gR X (ci := 2) (j := 7) rfl mo_in_X2 (by decide) (by decide) mo_wf_X3_60 rfl hd hG hp kk
theorem mo_f_X3_70 (X : mo_Cx κ lf ρf cc nL RX3 ret d) {a : Nat} {q : Nat} (hd : decode cc pc = .ok (.getfield 70, 3)) (hG : G.1 a = some (.inl 2)) (hp : G.2 a 10 = some q) (kk : mo_V κ k n (pc + 3) ls (.ref q :: st) G M t) : mo_V κ k n pc ls (.ref a :: st) G M t := mo_gR X (ci := 2) (j := 10) rfl mo_in_X2 (by decide) (by decide) mo_wf_X3_70 rfl hd hG hp kk
theorem mo_f_X3_73 (X : mo_Cx κ lf ρf cc nL RX3 ret d) {a : Nat} {q : Nat} (hd : decode cc pc = .ok (.getfield 73, 3)) (hG : G.1 a = some (.inl 2)) (hp : G.2 a 11 = some q) (kk : mo_V κ k n (pc + 3) ls (.ref q :: st) G M t) : mo_V κ k n pc ls (.ref a :: st) G M t := mo_gR X (ci := 2) (j := 11) rfl mo_in_X2 (by decide) (by decide) mo_wf_X3_73 rfl hd hG hp kk
theorem mo_f_X3_80 (X : mo_Cx κ lf ρf cc nL RX3 ret d) {a : Nat} {q : Nat} (hd : decode cc pc = .ok (.getfield 80, 3)) (hG : G.1 a = some (.inl 2)) (hp : G.2 a 13 = some q) (kk : mo_V κ k n (pc + 3) ls (.ref q :: st) G M t) : mo_V κ k n pc ls (.ref a :: st) G M t := mo_gR X (ci := 2) (j := 13) rfl mo_in_X2 (by decide) (by decide) mo_wf_X3_80 rfl hd hG hp kk
theorem mo_f_X3_87 (X : mo_Cx κ lf ρf cc nL RX3 ret d) {a : Nat} (hd : decode cc pc = .ok (.getfield 87, 3)) (hG : G.1 a = some (.inl 2)) (kk : mo_V κ k n (pc + 3) ls (mo_iv (M a 0) :: st) G M t) : mo_V κ k n pc ls (.ref a :: st) G M t := mo_gI X (ci := 2) (j := 0) rfl mo_in_X2 (by decide) (by decide) mo_wf_X3_87 rfl hd hG kk
theorem mo_p_X3_87 (X : mo_Cx κ lf ρf cc nL RX3 ret d) {a : Nat} {x : Int} (hd : decode cc pc = .ok (.putfield 87, 3)) (hG : G.1 a = some (.inl 2)) (kk : mo_V κ k n (pc + 3) ls st G (mo_ur M a (va_up (M a) 0 x)) t) : mo_V κ k n pc ls (mo_iv x :: .ref a :: st) G M t := mo_pI X (ci := 2) (j := 0) rfl mo_in_X2 (by decide) (by decide) mo_wf_X3_87 rfl hd hG tyX2_ok nmX2 rfl rfl kk
theorem mo_f_X4_112 (X : mo_Cx κ lf ρf cc nL RX4 ret d) {a : Nat} (hd : decode cc pc = .ok (.getfield 112, 3)) (hG : G.1 a = some (.inl 2)) (kk : mo_V κ k n (pc + 3) ls (mo_iv (M a 1) :: st) G M t) : mo_V κ k n pc ls (.ref a :: st) G M t := mo_gI X (ci := 2) (j := 1) rfl mo_in_X2 (by decide) (by decide) mo_wf_X4_112 rfl hd hG kk
theorem mo_p_X4_112 (X : mo_Cx κ lf ρf cc nL RX4 ret d) {a : Nat} {x : Int} (hd : decode cc pc = .ok (.putfield 112, 3)) (hG : G.1 a = some (.inl 2)) (kk : mo_V κ k n (pc + 3) ls st G (mo_ur M a (va_up (M a) 1 x)) t) : mo_V κ k n pc ls (mo_iv x :: .ref a :: st) G M t := mo_pI X (ci := 2) (j := 1) rfl mo_in_X2 (by decide) (by decide) mo_wf_X4_112 rfl hd hG tyX2_ok nmX2 rfl rfl kk
theorem mo_f_X4_12 (X : mo_Cx κ lf ρf cc nL RX4 ret d) {a : Nat} {q : Nat} (hd : decode cc pc = .ok (.getfield 12, 3)) (hG : G.1 a = some (.inl 4)) (hp : G.2 a 0 = some q) (kk : mo_V κ k n (pc + 3) ls (.ref q :: st) G M t) : mo_V κ k n pc ls (.ref a :: st) G M t := mo_gR X (ci := 4) (j := 0) rfl mo_in_X4 (by decide) (by decide) mo_wf_X4_12 rfl hd hG hp kk
theorem mo_f_X4_127 (X : mo_Cx κ lf ρf cc nL RX4 ret d) {a : Nat} {q : Nat} (hd : decode cc pc = .ok (.getfield 127, 3)) (hG : G.1 a = some (.inl 2)) (hp : G.2 a 10 = some q) (kk : mo_V κ k n (pc + 3) ls (.ref q :: st) G M t) : mo_V κ k n pc ls (.ref a :: st) G M t := mo_gR X (ci := 2) (j := 10) rfl mo_in_X2 (by decide) (by decide) mo_wf_X4_127 rfl hd hG hp kk
theorem mo_f_X4_132 (X : mo_Cx κ lf ρf cc nL RX4 ret d) {a : Nat} (hd : decode cc pc = .ok (.getfield 132, 3)) (hG : G.1 a = some (.inl 2)) (kk : mo_V κ k n (pc + 3) ls (mo_iv (M a 2) :: st) G M t) : mo_V κ k n pc ls (.ref a :: st) G M t := mo_gI X (ci := 2) (j := 2) rfl mo_in_X2 (by decide) (by decide) mo_wf_X4_132 rfl hd hG kk
theorem mo_p_X4_132 (X : mo_Cx κ lf ρf cc nL RX4 ret d) {a : Nat} {x : Int} (hd : decode cc pc = .ok (.putfield 132, 3)) (hG : G.1 a = some (.inl 2)) (kk : mo_V κ k n (pc + 3) ls st G (mo_ur M a (va_up (M a) 2 x)) t) : mo_V κ k n pc ls (mo_iv x :: .ref a :: st) G M t := mo_pI X (ci := 2) (j := 2) rfl mo_in_X2 (by decide) (by decide) mo_wf_X4_132 rfl hd hG tyX2_ok nmX2 rfl rfl kk
theorem mo_f_X4_16 (X : mo_Cx κ lf ρf cc nL RX4 ret d) {a : Nat} {q : Nat} (hd : decode cc pc = .ok (.getfield 16, 3)) (hG : G.1 a = some (.inl 4)) (hp : G.2 a 1 = some q) (kk : mo_V κ k n (pc + 3) ls (.ref q :: st) G M t) : mo_V κ k n pc ls (.ref a :: st) G M t := mo_gR X (ci := 4) (j := 1) rfl mo_in_X4 (by decide) (by decide) mo_wf_X4_16 rfl hd hG hp kk
theorem mo_f_X4_19 (X : mo_Cx κ lf ρf cc nL RX4 ret d) {a : Nat} {q : Nat} (hd : decode cc pc = .ok (.getfield 19, 3)) (hG : G.1 a = some (.inl 4)) (hp : G.2 a 2 = some q) (kk : mo_V κ k n (pc + 3) ls (.ref q :: st) G M t) : mo_V κ k n pc ls (.ref a :: st) G M t := mo_gR X (ci := 4) (j := 2) rfl mo_in_X4 (by decide) (by decide) mo_wf_X4_19 rfl hd hG hp kk
theorem mo_f_X4_195 (X : mo_Cx κ lf ρf cc nL RX4 ret d) {a : Nat} (hd : decode cc pc = .ok (.getfield 195, 3)) (hG : G.1 a = some (.inl 2)) (kk : mo_V κ k n (pc + 3) ls (mo_iv (M a 4) :: st) G M t) : mo_V κ k n pc ls (.ref a :: st) G M t := mo_gI X (ci := 2) (j := 4) rfl mo_in_X2 (by decide) (by decide) mo_wf_X4_195 rfl hd hG kk
theorem mo_p_X4_195 (X : mo_Cx κ lf ρf cc nL RX4 ret d) {a : Nat} {x : Int} (hd : decode cc pc = .ok (.putfield 195, 3)) (hG : G.1 a = some (.inl 2)) (kk : mo_V κ k n (pc + 3) ls st G (mo_ur M a (va_up (M a) 4 x)) t) : mo_V κ k n pc ls (mo_iv x :: .ref a :: st) G M t := mo_pI X (ci := 2) (j := 4) rfl mo_in_X2 (by decide) (by decide) mo_wf_X4_195 rfl hd hG tyX2_ok nmX2 rfl rfl kk
theorem mo_f_X4_213 (X : mo_Cx κ lf ρf cc nL RX4 ret d) {a : Nat} {q : Nat} (hd : decode cc pc = .ok (.getfield 213, 3)) (hG : G.1 a = some (.inl 2)) (hp : G.2 a 8 = some q) (kk : mo_V κ k n (pc + 3) ls (.ref q :: st) G M t) : mo_V κ k n pc ls (.ref a :: st) G M t := mo_gR X (ci := 2) (j := 8) rfl mo_in_X2 (by decide) (by decide) mo_wf_X4_213 rfl hd hG hp kk
theorem mo_f_X4_216 (X : mo_Cx κ lf ρf cc nL RX4 ret d) {a : Nat} {q : Nat} (hd : decode cc pc = .ok (.getfield 216, 3)) (hG : G.1 a = some (.inl 2)) (hp : G.2 a 9 = some q) (kk : mo_V κ k n (pc + 3) ls (.ref q :: st) G M t) : mo_V κ k n pc ls (.ref a :: st) G M t := mo_gR X (ci := 2) (j := 9) rfl mo_in_X2 (by decide) (by decide) mo_wf_X4_216 rfl hd hG hp kk
theorem mo_f_X4_227 (X : mo_Cx κ lf ρf cc nL RX4 ret d) {a : Nat} {q : Nat} (hd : decode cc pc = .ok (.getfield 227, 3)) (hG : G.1 a = some (.inl 2)) (hp : G.2 a 11 = some q) (kk : mo_V κ k n (pc + 3) ls (.ref q :: st) G M t) : mo_V κ k n pc ls (.ref a :: st) G M t := mo_gR X (ci := 2) (j := 11) rfl mo_in_X2 (by decide) (by decide) mo_wf_X4_227 rfl hd hG hp kk
theorem mo_f_X4_233 (X : mo_Cx κ lf ρf cc nL RX4 ret d) {a : Nat} {q : Nat} (hd : decode cc pc = .ok (.getfield 233, 3)) (hG : G.1 a = some (.inl 2)) (hp : G.2 a 12 = some q) (kk : mo_V κ k n (pc + 3) ls (.ref q :: st) G M t) : mo_V κ k n pc ls (.ref a :: st) G M t := mo_gR X (ci := 2) (j := 12) rfl mo_in_X2 (by decide) (by decide) mo_wf_X4_233 rfl hd hG hp kk
theorem mo_f_X4_246 (X : mo_Cx κ lf ρf cc nL RX4 ret d) {a : Nat} (hd : decode cc pc = .ok (.getfield 246, 3)) (hG : G.1 a = some (.inl 2)) (kk : mo_V κ k n (pc + 3) ls (mo_iv (M a 3) :: st) G M t) : mo_V κ k n pc ls (.ref a :: st) G M t := mo_gI X (ci := 2) (j := 3) rfl mo_in_X2 (by decide) (by decide) mo_wf_X4_246 rfl hd hG kk
theorem mo_p_X4_246 (X : mo_Cx κ lf ρf cc nL RX4 ret d) {a : Nat} {x : Int} (hd : decode cc pc = .ok (.putfield 246, 3)) (hG : G.1 a = some (.inl 2)) (kk : mo_V κ k n (pc + 3) ls st G (mo_ur M a (va_up (M a) 3 x)) t) : mo_V κ k n pc ls (mo_iv x :: .ref a :: st) G M t := mo_pI X (ci := 2) (j := 3) rfl mo_in_X2 (by decide) (by decide) mo_wf_X4_246 rfl hd hG tyX2_ok nmX2 rfl rfl kk
theorem mo_f_X4_249 (X : mo_Cx κ lf ρf cc nL RX4 ret d) {a : Nat} (hd : decode cc pc = .ok (.getfield 249, 3)) (hG : G.1 a = some (.inl 2)) (kk : mo_V κ k n (pc + 3) ls (mo_iv (M a 5) :: st) G M t) : mo_V κ k n pc ls (.ref a :: st) G M t := mo_gI X (ci := 2) (j := 5) rfl mo_in_X2 (by decide) (by decide) mo_wf_X4_249 rfl hd hG kk
theorem mo_p_X4_249 (X : mo_Cx κ lf ρf cc nL RX4 ret d) {a : Nat} {x : Int} (hd : decode cc pc = .ok (.putfield 249, 3)) (hG : G.1 a = some (.inl 2)) (kk : mo_V κ k n (pc + 3) ls st G (mo_ur M a (va_up (M a) 5 x)) t) : mo_V κ k n pc ls (mo_iv x :: .ref a :: st) G M t := mo_pI X (ci := 2) (j := 5) rfl mo_in_X2 (by decide) (by decide) mo_wf_X4_249 rfl hd hG tyX2_ok nmX2 rfl rfl kk
theorem mo_f_X4_26 (X : mo_Cx κ lf ρf cc nL RX4 ret d) {a : Nat} {q : Nat} (hd : decode cc pc = .ok (.getfield 26, 3)) (hG : G.1 a = some (.inl 4)) (hp : G.2 a 3 = some q) (kk : mo_V κ k n (pc + 3) ls (.ref q :: st) G M t) : mo_V κ k n pc ls (.ref a :: st) G M t := mo_gR X (ci := 4) (j := 3) rfl mo_in_X4 (by decide) (by decide) mo_wf_X4_26 rfl hd hG hp kk
theorem mo_f_X4_266 (X : mo_Cx κ lf ρf cc nL RX4 ret d) {a : Nat} (hd : decode cc pc = .ok (.getfield 266, 3)) (hG : G.1 a = some (.inl 3)) (kk : mo_V κ k n (pc + 3) ls (mo_iv (M a 5) :: st) G M t) : mo_V κ k n pc ls (.ref a :: st) G M t := mo_gI X (ci := 3) (j := 5) rfl mo_in_X3 (by decide) (by decide) mo_wf_X4_266 rfl hd hG kk
theorem mo_p_X4_266 (X : mo_Cx κ lf ρf cc nL RX4 ret d) {a : Nat} {x : Int} (hd : decode cc pc = .ok (.putfield 266, 3)) (hG : G.1 a = some (.inl 3)) (kk : mo_V κ k n (pc + 3) ls st G (mo_ur M a (va_up (M a) 5 x)) t) : mo_V κ k n pc ls (mo_iv x :: .ref a :: st) G M t := mo_pI X (ci := 3) (j := 5) rfl mo_in_X3 (by decide) (by decide) mo_wf_X4_266 rfl hd hG tyX3_ok nmX3 rfl rfl kk
theorem mo_f_X4_33 (X : mo_Cx κ lf ρf cc nL RX4 ret d) {a : Nat} {q : Nat} (hd : decode cc pc = .ok (.getfield 33, 3)) (hG : G.1 a = some (.inl 4)) (hp : G.2 a 4 = some q) (kk : mo_V κ k n (pc + 3) ls (.ref q :: st) G M t) : mo_V κ k n pc ls (.ref a :: st) G M t := mo_gR X (ci := 4) (j := 4) rfl mo_in_X4 (by decide) (by decide) mo_wf_X4_33 rfl hd hG hp kk
theorem mo_f_X4_37 (X : mo_Cx κ lf ρf cc nL RX4 ret d) {a : Nat} (hd : decode cc pc = .ok (.getfield 37, 3)) (hG : G.1 a = some (.inl 4)) (kk : mo_V κ k n (pc + 3) ls (mo_iv (M a 5) :: st) G M t) : mo_V κ k n pc ls (.ref a :: st) G M t := mo_gI X (ci := 4) (j := 5) rfl mo_in_X4 (by decide) (by decide) mo_wf_X4_37 rfl hd hG kk
theorem mo_p_X4_37 (X : mo_Cx κ lf ρf cc nL RX4 ret d) {a : Nat} {x : Int} (hd : decode cc pc = .ok (.putfield 37, 3)) (hG : G.1 a = some (.inl 4)) (kk : mo_V κ k n (pc + 3) ls st G (mo_ur M a (va_up (M a) 5 x)) t) : mo_V κ k n pc ls (mo_iv x :: .ref a :: st) G M t := mo_pI X (ci := 4) (j := 5) rfl mo_in_X4 (by decide) (by decide) mo_wf_X4_37 rfl hd hG tyX4_ok nmX4 rfl rfl kk
theorem mo_f_X4_55 (X : mo_Cx κ lf ρf cc nL RX4 ret d) {a : Nat} (hd : decode cc pc = .ok (.getfield 55, 3)) (hG : G.1 a = some (.inl 2)) (kk : mo_V κ k n (pc + 3) ls (mo_iv (M a 0) :: st) G M t) : mo_V κ k n pc ls (.ref a :: st) G M t := mo_gI X (ci := 2) (j := 0) rfl mo_in_X2 (by decide) (by decide) mo_wf_X4_55 rfl hd hG kk
theorem mo_p_X4_55 (X : mo_Cx κ lf ρf cc nL RX4 ret d) {a : Nat} {x : Int} (hd : decode cc pc = .ok (.putfield 55, 3)) (hG : G.1 a = some (.inl 2)) (kk : mo_V κ k n (pc + 3) ls st G (mo_ur M a (va_up (M a) 0 x)) t) : mo_V κ k n pc ls (mo_iv x :: .ref a :: st) G M t := mo_pI X (ci := 2) (j := 0) rfl mo_in_X2 (by decide) (by decide) mo_wf_X4_55 rfl hd hG tyX2_ok nmX2 rfl rfl kk
theorem mo_f_X4_93 (X : mo_Cx κ lf ρf cc nL RX4 ret d) {a : Nat} {q : Nat} (hd : decode cc pc = .ok (.getfield 93, 3)) (hG : G.1 a = some (.inl 2)) (hp : G.2 a 7 = some q) (kk : mo_V κ k n (pc + 3) ls (.ref q :: st) G M t) : mo_V κ k n pc ls (.ref a :: st) G M t := mo_gR X (ci := 2) (j := 7) rfl mo_in_X2 (by decide) (by decide) mo_wf_X4_93 rfl hd hG hp kk
end MOF
def mo_Row (G : mo_G) (r n : Nat) : Prop := G.1 r = some (.inl 1) ∧ G.2 r 0 = some (r + 1) ∧ G.1 (r + 1) = some (.inr (0, n))
def mo_St (G : mo_G) (h : Nat) : Prop := G.1 h = some (.inl 2) ∧ (G.2 h 6 = some (h + 1) ∧ mo_Row G (h + 1) 160) ∧ (G.2 h 7 = some (h + 3) ∧ mo_Row G (h + 3) 8) ∧ (G.2 h 8 = some (h + 5) ∧ mo_Row G (h + 5) 8) ∧ (G.2 h 9 = some (h + 7) ∧ mo_Row G (h + 7) 8) ∧ (G.2 h 10 = some (h + 9) ∧ mo_Row G (h + 9) 6) ∧ (G.2 h 11 = some (h + 11) ∧ mo_Row G (h + 11) 6) ∧ (G.2 h 12 = some (h + 13) ∧ mo_Row G (h + 13) 6) ∧ (G.2 h 13 = some (h + 15) ∧ mo_Row G (h + 15) 5) ∧ (G.2 h 14 = some (h + 17) ∧ mo_Row G (h + 17) 420)
theorem mo_St_o {G : mo_G} {h : Nat} (q : mo_St G h) : G.1 h = some (.inl 2) := q.1
theorem mo_St_p6 {G : mo_G} {h : Nat} (q : mo_St G h) : G.2 h 6 = some (h + 1) := (q.2.1).1
theorem mo_St_r6 {G : mo_G} {h : Nat} (q : mo_St G h) : mo_Row G (h + 1) 160 := (q.2.1).2
theorem mo_St_p7 {G : mo_G} {h : Nat} (q : mo_St G h) : G.2 h 7 = some (h + 3) := (q.2.2.1).1
theorem mo_St_r7 {G : mo_G} {h : Nat} (q : mo_St G h) : mo_Row G (h + 3) 8 := (q.2.2.1).2
theorem mo_St_p8 {G : mo_G} {h : Nat} (q : mo_St G h) : G.2 h 8 = some (h + 5) := (q.2.2.2.1).1
theorem mo_St_r8 {G : mo_G} {h : Nat} (q : mo_St G h) : mo_Row G (h + 5) 8 := (q.2.2.2.1).2
theorem mo_St_p9 {G : mo_G} {h : Nat} (q : mo_St G h) : G.2 h 9 = some (h + 7) := (q.2.2.2.2.1).1
theorem mo_St_r9 {G : mo_G} {h : Nat} (q : mo_St G h) : mo_Row G (h + 7) 8 := (q.2.2.2.2.1).2
theorem mo_St_p10 {G : mo_G} {h : Nat} (q : mo_St G h) : G.2 h 10 = some (h + 9) := (q.2.2.2.2.2.1).1
theorem mo_St_r10 {G : mo_G} {h : Nat} (q : mo_St G h) : mo_Row G (h + 9) 6 := (q.2.2.2.2.2.1).2
theorem mo_St_p11 {G : mo_G} {h : Nat} (q : mo_St G h) : G.2 h 11 = some (h + 11) := (q.2.2.2.2.2.2.1).1
theorem mo_St_r11 {G : mo_G} {h : Nat} (q : mo_St G h) : mo_Row G (h + 11) 6 := (q.2.2.2.2.2.2.1).2
theorem mo_St_p12 {G : mo_G} {h : Nat} (q : mo_St G h) : G.2 h 12 = some (h + 13) := (q.2.2.2.2.2.2.2.1).1
theorem mo_St_r12 {G : mo_G} {h : Nat} (q : mo_St G h) : mo_Row G (h + 13) 6 := (q.2.2.2.2.2.2.2.1).2
theorem mo_St_p13 {G : mo_G} {h : Nat} (q : mo_St G h) : G.2 h 13 = some (h + 15) := (q.2.2.2.2.2.2.2.2.1).1
theorem mo_St_r13 {G : mo_G} {h : Nat} (q : mo_St G h) : mo_Row G (h + 15) 5 := (q.2.2.2.2.2.2.2.2.1).2
theorem mo_St_p14 {G : mo_G} {h : Nat} (q : mo_St G h) : G.2 h 14 = some (h + 17) := (q.2.2.2.2.2.2.2.2.2).1
theorem mo_St_r14 {G : mo_G} {h : Nat} (q : mo_St G h) : mo_Row G (h + 17) 420 := (q.2.2.2.2.2.2.2.2.2).2
def mo_Bk (G : mo_G) (h : Nat) : Prop := G.1 h = some (.inl 3) ∧ (G.2 h 0 = some (h + 1) ∧ mo_Row G (h + 1) 8) ∧ (G.2 h 1 = some (h + 3) ∧ mo_Row G (h + 3) 6) ∧ (G.2 h 2 = some (h + 5) ∧ mo_Row G (h + 5) 6) ∧ (G.2 h 3 = some (h + 7) ∧ mo_Row G (h + 7) 140) ∧ (G.2 h 4 = some (h + 9) ∧ mo_Row G (h + 9) 8)
theorem mo_Bk_o {G : mo_G} {h : Nat} (q : mo_Bk G h) : G.1 h = some (.inl 3) := q.1
theorem mo_Bk_p0 {G : mo_G} {h : Nat} (q : mo_Bk G h) : G.2 h 0 = some (h + 1) := (q.2.1).1
theorem mo_Bk_r0 {G : mo_G} {h : Nat} (q : mo_Bk G h) : mo_Row G (h + 1) 8 := (q.2.1).2
theorem mo_Bk_p1 {G : mo_G} {h : Nat} (q : mo_Bk G h) : G.2 h 1 = some (h + 3) := (q.2.2.1).1
theorem mo_Bk_r1 {G : mo_G} {h : Nat} (q : mo_Bk G h) : mo_Row G (h + 3) 6 := (q.2.2.1).2
theorem mo_Bk_p2 {G : mo_G} {h : Nat} (q : mo_Bk G h) : G.2 h 2 = some (h + 5) := (q.2.2.2.1).1
theorem mo_Bk_r2 {G : mo_G} {h : Nat} (q : mo_Bk G h) : mo_Row G (h + 5) 6 := (q.2.2.2.1).2
theorem mo_Bk_p3 {G : mo_G} {h : Nat} (q : mo_Bk G h) : G.2 h 3 = some (h + 7) := (q.2.2.2.2.1).1
theorem mo_Bk_r3 {G : mo_G} {h : Nat} (q : mo_Bk G h) : mo_Row G (h + 7) 140 := (q.2.2.2.2.1).2
theorem mo_Bk_p4 {G : mo_G} {h : Nat} (q : mo_Bk G h) : G.2 h 4 = some (h + 9) := (q.2.2.2.2.2).1
theorem mo_Bk_r4 {G : mo_G} {h : Nat} (q : mo_Bk G h) : mo_Row G (h + 9) 8 := (q.2.2.2.2.2).2
def mo_Tx (G : mo_G) (h : Nat) : Prop := G.1 h = some (.inl 0) ∧ (G.2 h 0 = some (h + 1) ∧ mo_Row G (h + 1) 100) ∧ (G.2 h 1 = some (h + 3) ∧ mo_Row G (h + 3) 50) ∧ (G.2 h 2 = some (h + 5) ∧ mo_Row G (h + 5) 50) ∧ (G.2 h 3 = some (h + 7) ∧ mo_Row G (h + 7) 50) ∧ (G.2 h 4 = some (h + 9) ∧ mo_Row G (h + 9) 50)
theorem mo_Tx_o {G : mo_G} {h : Nat} (q : mo_Tx G h) : G.1 h = some (.inl 0) := q.1
theorem mo_Tx_p0 {G : mo_G} {h : Nat} (q : mo_Tx G h) : G.2 h 0 = some (h + 1) := (q.2.1).1
theorem mo_Tx_r0 {G : mo_G} {h : Nat} (q : mo_Tx G h) : mo_Row G (h + 1) 100 := (q.2.1).2
theorem mo_Tx_p1 {G : mo_G} {h : Nat} (q : mo_Tx G h) : G.2 h 1 = some (h + 3) := (q.2.2.1).1
theorem mo_Tx_r1 {G : mo_G} {h : Nat} (q : mo_Tx G h) : mo_Row G (h + 3) 50 := (q.2.2.1).2
theorem mo_Tx_p2 {G : mo_G} {h : Nat} (q : mo_Tx G h) : G.2 h 2 = some (h + 5) := (q.2.2.2.1).1
theorem mo_Tx_r2 {G : mo_G} {h : Nat} (q : mo_Tx G h) : mo_Row G (h + 5) 50 := (q.2.2.2.1).2
theorem mo_Tx_p3 {G : mo_G} {h : Nat} (q : mo_Tx G h) : G.2 h 3 = some (h + 7) := (q.2.2.2.2.1).1
theorem mo_Tx_r3 {G : mo_G} {h : Nat} (q : mo_Tx G h) : mo_Row G (h + 7) 50 := (q.2.2.2.2.1).2
theorem mo_Tx_p4 {G : mo_G} {h : Nat} (q : mo_Tx G h) : G.2 h 4 = some (h + 9) := (q.2.2.2.2.2).1
theorem mo_Tx_r4 {G : mo_G} {h : Nat} (q : mo_Tx G h) : mo_Row G (h + 9) 50 := (q.2.2.2.2.2).2
def mo_Ms (G : mo_G) (h : Nat) : Prop := G.1 h = some (.inl 4) ∧ (G.2 h 0 = some (h + 1) ∧ mo_St G (h + 1)) ∧ (G.2 h 1 = some (h + 20) ∧ mo_St G (h + 20)) ∧ (G.2 h 2 = some (h + 39) ∧ G.1 (h + 39) = some (.inr (2, 4))) ∧ (G.2 h 3 = some (h + 116) ∧ mo_Bk G (h + 116)) ∧ (G.2 h 4 = some (h + 127) ∧ mo_Tx G (h + 127)) ∧ ∀ i : Nat, i < 4 → mo_St G (h + 40 + 19 * i)
theorem mo_Ms_o {G : mo_G} {h : Nat} (q : mo_Ms G h) : G.1 h = some (.inl 4) := q.1
theorem mo_Ms_p0 {G : mo_G} {h : Nat} (q : mo_Ms G h) : G.2 h 0 = some (h + 1) := (q.2.1).1
theorem mo_Ms_r0 {G : mo_G} {h : Nat} (q : mo_Ms G h) : mo_St G (h + 1) := (q.2.1).2
theorem mo_Ms_p1 {G : mo_G} {h : Nat} (q : mo_Ms G h) : G.2 h 1 = some (h + 20) := (q.2.2.1).1
theorem mo_Ms_r1 {G : mo_G} {h : Nat} (q : mo_Ms G h) : mo_St G (h + 20) := (q.2.2.1).2
theorem mo_Ms_p2 {G : mo_G} {h : Nat} (q : mo_Ms G h) : G.2 h 2 = some (h + 39) := (q.2.2.2.1).1
theorem mo_Ms_r2 {G : mo_G} {h : Nat} (q : mo_Ms G h) : G.1 (h + 39) = some (.inr (2, 4)) := (q.2.2.2.1).2
theorem mo_Ms_p3 {G : mo_G} {h : Nat} (q : mo_Ms G h) : G.2 h 3 = some (h + 116) := (q.2.2.2.2.1).1
theorem mo_Ms_r3 {G : mo_G} {h : Nat} (q : mo_Ms G h) : mo_Bk G (h + 116) := (q.2.2.2.2.1).2
theorem mo_Ms_p4 {G : mo_G} {h : Nat} (q : mo_Ms G h) : G.2 h 4 = some (h + 127) := (q.2.2.2.2.2.1).1
theorem mo_Ms_r4 {G : mo_G} {h : Nat} (q : mo_Ms G h) : mo_Tx G (h + 127) := (q.2.2.2.2.2.1).2
theorem mo_Ms_s {G : mo_G} {h : Nat} (q : mo_Ms G h) {i : Nat} (hi : i < 4) : mo_St G (h + 40 + 19 * i) := q.2.2.2.2.2.2 i hi
