/-! the world as both constructors leave it -/
def Iv2 (E : Ee) : Prop := eP E 250 0 = some 251 ∧ 253 ≤ eN E ∧ eC E 252 = (fun _ => 0)
theorem up2_k' {α : Type} (c : Nat → Nat → α) {j k j' k' : Nat} (v : α) (h : k' ≠ k) : up2 c j k v j' k' = c j' k' := up2_k c v h
theorem iv_SP {E : Ee} (h : Iv2 E) {i k b : Nat} (hk : k ≠ 0) : Iv2 (eSP E i k b) := by
  obtain ⟨h1, h2, h3⟩ := h
  refine ⟨?_, h2, h3⟩
  show up2 (eP E) i k (some b) 250 0 = some 251
  rw [up2_k' (eP E) (some b) (Ne.symm hk)]
  exact h1
theorem iv_SI {E : Ee} (h : Iv2 E) {i k : Nat} {v : Int32} (hi : i ≠ 252) : Iv2 (eSI E i k v) := by
  obtain ⟨h1, h2, h3⟩ := h
  refine ⟨h1, h2, ?_⟩
  show up2 (eC E) i k v 252 = _
  rw [up2_r _ _ (Ne.symm hi)]
  exact h3
theorem iv_N {E : Ee} (h : Iv2 E) {k len w : Nat} {row : Nat → Int32} : Iv2 (eNew E k len w row) := by
  obtain ⟨h1, h2, h3⟩ := h
  refine ⟨?_, ?_, ?_⟩
  · show va_up (eP E) (eN E) (fun _ => none) 250 0 = some 251
    unfold va_up
    rw [if_neg (by omega)]
    exact h1
  · show 253 ≤ eN E + 1
    omega
  · show va_up (eC E) (eN E) row 252 = _
    unfold va_up
    rw [if_neg (by omega)]
    exact h3
theorem E04_iv : Iv2 E04 := by
  have h := E04_is
  have n3 : eN E03 = 251 := by
    show eN E02 + 1 = 251
    rw [E02_n.1]
  unfold fnN_X7_init at h
  replace h := (chk_some h).2
  obtain ⟨E_2, eE_2⟩ : ∃ y : Ee, y = (eNew E03 9 110 110 (fun _ => 0)) := ⟨_, rfl⟩
  replace h := bnd_at h eE_2
  have NE_2 : eN E_2 = 252 := by
    rw [eE_2]
    show eN E03 + 1 = 252
    rw [n3]
  replace h := (chk_some h).2
  obtain ⟨E_6, eE_6⟩ : ∃ y : Ee, y = (eSP E_2 250 0 (eN E03)) := ⟨_, rfl⟩
  replace h := bnd_at h eE_6
  have NE_6 : eN E_6 = 252 := by
    rw [eE_6]
    exact NE_2
  have PE_6 : eP E_6 250 0 = some 251 := by
    rw [eE_6, n3]
    show up2 (eP E_2) 250 0 (some 251) 250 0 = some 251
    exact up2_s _ _ _ _
  replace h := (chk_some h).2
  obtain ⟨E_8, eE_8⟩ : ∃ y : Ee, y = (eNew E_6 9 8010 8010 (fun _ => 0)) := ⟨_, rfl⟩
  replace h := bnd_at h eE_8
  have IE_8 : Iv2 E_8 := by
    rw [eE_8]
    refine ⟨?_, ?_, ?_⟩
    · show va_up (eP E_6) (eN E_6) (fun _ => none) 250 0 = some 251
      unfold va_up
      rw [if_neg (by omega)]
      exact PE_6
    · show 253 ≤ eN E_6 + 1
      omega
    · show va_up (eC E_6) (eN E_6) (fun _ => 0) 252 = _
      unfold va_up
      exact if_pos NE_6.symm
  replace h := (chk_some h).2
  obtain ⟨E_12, eE_12⟩ : ∃ y : Ee, y = (eSP E_8 250 1 (eN E_6)) := ⟨_, rfl⟩
  replace h := bnd_at h eE_12
  have IE_12 : Iv2 E_12 := by
    rw [eE_12]
    exact iv_SP IE_8 (by omega)
  replace h := (chk_some h).2
  obtain ⟨E_14, eE_14⟩ : ∃ y : Ee, y = (eNew E_12 10 4 4 (fun _ => 0)) := ⟨_, rfl⟩
  replace h := bnd_at h eE_14
  have IE_14 : Iv2 E_14 := by
    rw [eE_14]
    exact iv_N IE_12
  replace h := (chk_some h).2
  obtain ⟨E_18, eE_18⟩ : ∃ y : Ee, y = (eSP E_14 250 2 (eN E_12)) := ⟨_, rfl⟩
  replace h := bnd_at h eE_18
  have IE_18 : Iv2 E_18 := by
    rw [eE_18]
    exact iv_SP IE_14 (by omega)
  replace h := (chk_some h).2
  obtain ⟨E_20, eE_20⟩ : ∃ y : Ee, y = (eNew E_18 9 110 110 (fun _ => 0)) := ⟨_, rfl⟩
  replace h := bnd_at h eE_20
  have IE_20 : Iv2 E_20 := by
    rw [eE_20]
    exact iv_N IE_18
  replace h := (chk_some h).2
  obtain ⟨E_24, eE_24⟩ : ∃ y : Ee, y = (eSP E_20 250 3 (eN E_18)) := ⟨_, rfl⟩
  replace h := bnd_at h eE_24
  have IE_24 : Iv2 E_24 := by
    rw [eE_24]
    exact iv_SP IE_20 (by omega)
  replace h := (chk_some h).2
  obtain ⟨E_26, eE_26⟩ : ∃ y : Ee, y = (eNew E_24 9 8010 8010 (fun _ => 0)) := ⟨_, rfl⟩
  replace h := bnd_at h eE_26
  have IE_26 : Iv2 E_26 := by
    rw [eE_26]
    exact iv_N IE_24
  replace h := (chk_some h).2
  obtain ⟨E_30, eE_30⟩ : ∃ y : Ee, y = (eSP E_26 250 4 (eN E_24)) := ⟨_, rfl⟩
  replace h := bnd_at h eE_30
  have IE_30 : Iv2 E_30 := by
    rw [eE_30]
    exact iv_SP IE_26 (by omega)
  replace h := (chk_some h).2
  obtain ⟨E_32, eE_32⟩ : ∃ y : Ee, y = (eNew E_30 10 4 4 (fun _ => 0)) := ⟨_, rfl⟩
  replace h := bnd_at h eE_32
  have IE_32 : Iv2 E_32 := by
    rw [eE_32]
    exact iv_N IE_30
  replace h := (chk_some h).2
  obtain ⟨E_36, eE_36⟩ : ∃ y : Ee, y = (eSP E_32 250 5 (eN E_30)) := ⟨_, rfl⟩
  replace h := bnd_at h eE_36
  have IE_36 : Iv2 E_36 := by
    rw [eE_36]
    exact iv_SP IE_32 (by omega)
  replace h := (chk_some h).2
  obtain ⟨E_38, eE_38⟩ : ∃ y : Ee, y = (eNew E_36 9 440 440 (fun _ => 0)) := ⟨_, rfl⟩
  replace h := bnd_at h eE_38
  have IE_38 : Iv2 E_38 := by
    rw [eE_38]
    exact iv_N IE_36
  replace h := (chk_some h).2
  obtain ⟨E_42, eE_42⟩ : ∃ y : Ee, y = (eSP E_38 250 6 (eN E_36)) := ⟨_, rfl⟩
  replace h := bnd_at h eE_42
  have IE_42 : Iv2 E_42 := by
    rw [eE_42]
    exact iv_SP IE_38 (by omega)
  replace h := (chk_some h).2
  obtain ⟨E_44, eE_44⟩ : ∃ y : Ee, y = (eNew E_42 9 10020 10020 (fun _ => 0)) := ⟨_, rfl⟩
  replace h := bnd_at h eE_44
  have IE_44 : Iv2 E_44 := by
    rw [eE_44]
    exact iv_N IE_42
  replace h := (chk_some h).2
  obtain ⟨E_48, eE_48⟩ : ∃ y : Ee, y = (eSP E_44 250 7 (eN E_42)) := ⟨_, rfl⟩
  replace h := bnd_at h eE_48
  have IE_48 : Iv2 E_48 := by
    rw [eE_48]
    exact iv_SP IE_44 (by omega)
  replace h := (chk_some h).2
  obtain ⟨E_50, eE_50⟩ : ∃ y : Ee, y = (eNew E_48 9 10020 10020 (fun _ => 0)) := ⟨_, rfl⟩
  replace h := bnd_at h eE_50
  have IE_50 : Iv2 E_50 := by
    rw [eE_50]
    exact iv_N IE_48
  replace h := (chk_some h).2
  obtain ⟨E_54, eE_54⟩ : ∃ y : Ee, y = (eSP E_50 250 8 (eN E_48)) := ⟨_, rfl⟩
  replace h := bnd_at h eE_54
  have IE_54 : Iv2 E_54 := by
    rw [eE_54]
    exact iv_SP IE_50 (by omega)
  replace h := (chk_some h).2
  obtain ⟨E_56, eE_56⟩ : ∃ y : Ee, y = (eNew E_54 10 16 16 (fun _ => 0)) := ⟨_, rfl⟩
  replace h := bnd_at h eE_56
  have IE_56 : Iv2 E_56 := by
    rw [eE_56]
    exact iv_N IE_54
  replace h := (chk_some h).2
  obtain ⟨E_60, eE_60⟩ : ∃ y : Ee, y = (eSP E_56 250 9 (eN E_54)) := ⟨_, rfl⟩
  replace h := bnd_at h eE_60
  have IE_60 : Iv2 E_60 := by
    rw [eE_60]
    exact iv_SP IE_56 (by omega)
  replace h := (chk_some h).2
  obtain ⟨E_62, eE_62⟩ : ∃ y : Ee, y = (eNew E_60 9 60 60 (fun _ => 0)) := ⟨_, rfl⟩
  replace h := bnd_at h eE_62
  have IE_62 : Iv2 E_62 := by
    rw [eE_62]
    exact iv_N IE_60
  replace h := (chk_some h).2
  obtain ⟨E_66, eE_66⟩ : ∃ y : Ee, y = (eSP E_62 250 11 (eN E_60)) := ⟨_, rfl⟩
  replace h := bnd_at h eE_66
  have IE_66 : Iv2 E_66 := by
    rw [eE_66]
    exact iv_SP IE_62 (by omega)
  replace h := (chk_some h).2
  obtain ⟨b_68, eb_68, h⟩ := rfm_some h
  rw [IE_66.1] at eb_68
  cases eb_68
  replace h := (chk_some h).2
  replace h := (chk_some h).2
  obtain ⟨E_72, eE_72⟩ : ∃ y : Ee, y = (eSI E_66 251 (0 : Int32).toNatClampNeg (1000 : Int32)) := ⟨_, rfl⟩
  replace h := bnd_at h eE_72
  have IE_72 : Iv2 E_72 := by
    rw [eE_72]
    exact iv_SI IE_66 (by omega)
  replace h := (chk_some h).2
  obtain ⟨b_74, eb_74, h⟩ := rfm_some h
  rw [IE_72.1] at eb_74
  cases eb_74
  replace h := (chk_some h).2
  replace h := (chk_some h).2
  obtain ⟨E_78, eE_78⟩ : ∃ y : Ee, y = (eSI E_72 251 (1 : Int32).toNatClampNeg (50 : Int32)) := ⟨_, rfl⟩
  replace h := bnd_at h eE_78
  have IE_78 : Iv2 E_78 := by
    rw [eE_78]
    exact iv_SI IE_72 (by omega)
  replace h := (chk_some h).2
  obtain ⟨b_80, eb_80, h⟩ := rfm_some h
  rw [IE_78.1] at eb_80
  cases eb_80
  replace h := (chk_some h).2
  replace h := (chk_some h).2
  obtain ⟨E_84, eE_84⟩ : ∃ y : Ee, y = (eSI E_78 251 (2 : Int32).toNatClampNeg (1500 : Int32)) := ⟨_, rfl⟩
  replace h := bnd_at h eE_84
  have IE_84 : Iv2 E_84 := by
    rw [eE_84]
    exact iv_SI IE_78 (by omega)
  replace h := (chk_some h).2
  obtain ⟨b_86, eb_86, h⟩ := rfm_some h
  rw [IE_84.1] at eb_86
  cases eb_86
  replace h := (chk_some h).2
  replace h := (chk_some h).2
  obtain ⟨E_90, eE_90⟩ : ∃ y : Ee, y = (eSI E_84 251 (3 : Int32).toNatClampNeg (100 : Int32)) := ⟨_, rfl⟩
  replace h := bnd_at h eE_90
  have IE_90 : Iv2 E_90 := by
    rw [eE_90]
    exact iv_SI IE_84 (by omega)
  replace h := (chk_some h).2
  obtain ⟨b_92, eb_92, h⟩ := rfm_some h
  rw [IE_90.1] at eb_92
  cases eb_92
  replace h := (chk_some h).2
  replace h := (chk_some h).2
  obtain ⟨E_96, eE_96⟩ : ∃ y : Ee, y = (eSI E_90 251 (4 : Int32).toNatClampNeg (2500 : Int32)) := ⟨_, rfl⟩
  replace h := bnd_at h eE_96
  have IE_96 : Iv2 E_96 := by
    rw [eE_96]
    exact iv_SI IE_90 (by omega)
  replace h := (chk_some h).2
  obtain ⟨b_98, eb_98, h⟩ := rfm_some h
  rw [IE_96.1] at eb_98
  cases eb_98
  replace h := (chk_some h).2
  replace h := (chk_some h).2
  obtain ⟨E_102, eE_102⟩ : ∃ y : Ee, y = (eSI E_96 251 (5 : Int32).toNatClampNeg (500 : Int32)) := ⟨_, rfl⟩
  replace h := bnd_at h eE_102
  have IE_102 : Iv2 E_102 := by
    rw [eE_102]
    exact iv_SI IE_96 (by omega)
  replace h := (chk_some h).2
  obtain ⟨b_104, eb_104, h⟩ := rfm_some h
  rw [IE_102.1] at eb_104
  cases eb_104
  replace h := (chk_some h).2
  replace h := (chk_some h).2
  obtain ⟨E_108, eE_108⟩ : ∃ y : Ee, y = (eSI E_102 251 (6 : Int32).toNatClampNeg (2 : Int32)) := ⟨_, rfl⟩
  replace h := bnd_at h eE_108
  have IE_108 : Iv2 E_108 := by
    rw [eE_108]
    exact iv_SI IE_102 (by omega)
  replace h := (chk_some h).2
  obtain ⟨b_110, eb_110, h⟩ := rfm_some h
  rw [IE_108.1] at eb_110
  cases eb_110
  replace h := (chk_some h).2
  replace h := (chk_some h).2
  obtain ⟨E_114, eE_114⟩ : ∃ y : Ee, y = (eSI E_108 251 (13 : Int32).toNatClampNeg (-1 : Int32)) := ⟨_, rfl⟩
  replace h := bnd_at h eE_114
  have IE_114 : Iv2 E_114 := by
    rw [eE_114]
    exact iv_SI IE_108 (by omega)
  have e9 := Option.some.inj h
  rw [← e9]
  exact IE_114
def tgE (B : Nat) : Prop := eK E04 B 5 = true ∧ eP E04 B 0 = some (B + 1) ∧ eP E04 B 1 = some (B + 2) ∧ eP E04 B 2 = some (B + 3) ∧ eP E04 B 3 = some (B + 4) ∧ eK E04 (B + 1) 9 = true ∧ eLn E04 (B + 1) = 7 ∧ eK E04 (B + 2) 11 = true ∧ eLn E04 (B + 2) = 10 ∧ eK E04 (B + 3) 12 = true ∧ eLn E04 (B + 3) = 6 ∧ eK E04 (B + 4) 1 = true ∧ (∀ i, i < 10 → eP E04 (B + 2) i = some (B + (5 + 3 * i)) ∧ eK E04 (B + (5 + 3 * i)) 0 = true ∧ eP E04 (B + (5 + 3 * i)) 0 = some (B + (5 + 3 * i + 1)) ∧ eK E04 (B + (5 + 3 * i + 1)) 2 = true ∧ eP E04 (B + (5 + 3 * i + 1)) 0 = some (B + (5 + 3 * i + 1 + 1)) ∧ eK E04 (B + (5 + 3 * i + 1 + 1)) 9 = true ∧ eLn E04 (B + (5 + 3 * i + 1 + 1)) = 801) ∧ (∀ j, j < 6 → eP E04 (B + 3) j = some (B + (35 + j)) ∧ eK E04 (B + (35 + j)) 3 = true)
theorem tgE_1 : tgE 1 := by
  unfold tgE
  decide +kernel
theorem tgE_43 : tgE 43 := by
  unfold tgE
  decide +kernel
theorem tgE_84 : tgE 84 := by
  unfold tgE
  decide +kernel
theorem tgE_125 : tgE 125 := by
  unfold tgE
  decide +kernel
theorem tgE_166 : tgE 166 := by
  unfold tgE
  decide +kernel
theorem tgE_209 : tgE 209 := by
  unfold tgE
  decide +kernel
theorem iniA : eK E04 0 6 = true ∧ eP E04 0 0 = some 1 ∧ eP E04 0 1 = some 42 ∧ eP E04 0 2 = some 207 ∧ eP E04 0 3 = some 209 ∧ eK E04 42 13 = true ∧ eLn E04 42 = 4 ∧ eP E04 42 0 = some 43 ∧ eP E04 42 1 = some 84 ∧ eP E04 42 2 = some 125 ∧ eP E04 42 3 = some 166 ∧ eK E04 207 4 = true ∧ eP E04 207 0 = some 208 ∧ eK E04 208 8 = true ∧ eLn E04 208 = 60 := by decide +kernel
theorem iniG : eK E04 250 7 = true ∧ eK E04 251 9 = true ∧ eLn E04 251 = 110 ∧ eP E04 250 0 = some 251 ∧ eK E04 252 9 = true ∧ eLn E04 252 = 8010 ∧ eP E04 250 1 = some 252 ∧ eK E04 253 10 = true ∧ eLn E04 253 = 4 ∧ eP E04 250 2 = some 253 ∧ eK E04 254 9 = true ∧ eLn E04 254 = 110 ∧ eP E04 250 3 = some 254 ∧ eK E04 255 9 = true ∧ eLn E04 255 = 8010 ∧ eP E04 250 4 = some 255 ∧ eK E04 256 10 = true ∧ eLn E04 256 = 4 ∧ eP E04 250 5 = some 256 ∧ eK E04 257 9 = true ∧ eLn E04 257 = 440 ∧ eP E04 250 6 = some 257 ∧ eK E04 258 9 = true ∧ eLn E04 258 = 10020 ∧ eP E04 250 7 = some 258 ∧ eK E04 259 9 = true ∧ eLn E04 259 = 10020 ∧ eP E04 250 8 = some 259 ∧ eK E04 260 10 = true ∧ eLn E04 260 = 16 ∧ eP E04 250 9 = some 260 ∧ eK E04 261 9 = true ∧ eLn E04 261 = 60 ∧ eP E04 250 11 = some 261 := by decide +kernel
theorem iniM : eC E04 251 0 = nI 1000 ∧ eC E04 251 1 = nI 50 ∧ eC E04 251 2 = nI 1500 ∧ eC E04 251 3 = nI 100 ∧ eC E04 251 4 = nI 2500 ∧ eC E04 251 5 = nI 500 ∧ eC E04 251 6 = nI 2 ∧ eC E04 251 7 = nI 0 ∧ eC E04 251 8 = nI 0 ∧ eC E04 251 9 = nI 0 ∧ eC E04 251 10 = nI 0 ∧ eC E04 251 11 = nI 0 ∧ eC E04 251 12 = nI 0 ∧ eC E04 251 19 = nI 0 ∧ eC E04 251 13 = nONE := by decide +kernel
theorem iniC : (∀ k, k < 7 → eC E04 (209 + 1) k = eC E04 251 k) ∧ eC E04 (209 + 0) 4 = nI 0 ∧ eC E04 (209 + 0) 5 = nI 0 ∧ eC E04 (209 + 0) 6 = nI 0 ∧ eC E04 (209 + 4) 0 = nI 0 ∧ eC E04 (209 + 4) 1 = nI 0 ∧ eC E04 (209 + 4) 2 = nI 0 ∧ (∀ k, k < 4 → eJ E04 (209 + 0) (7 + k) = eJ E04 253 k) ∧ eC E04 0 4 = nI 0 ∧ eC E04 207 1 = nI 0 ∧ eC E04 250 10 = nI 0 ∧ eC E04 250 12 = nI 0 := by decide +kernel
