abbrev ab_cl : List vw_C := vwCl
def ab_nw0 : Cond := (Jvm.Cond.methodLinkNest "Roomandhour" (9 : Nat) ({ cls := "Roomandhour$School", name := "<init>", desc := "()V" } : Jvm.MethodName) "Roomandhour")
def ab_nw1 : Cond := (Jvm.Cond.methodLinkNest "Roomandhour" (18 : Nat) ({ cls := "Roomandhour$Timetable", name := "<init>", desc := "()V" } : Jvm.MethodName) "Roomandhour")
def ab_nw2 : Cond := (Jvm.Cond.methodLinkNest "Roomandhour$Search" (11 : Nat) ({ cls := "Roomandhour$Timetable", name := "<init>", desc := "()V" } : Jvm.MethodName) "Roomandhour")
def ab_nw3 : Cond := (Jvm.Cond.methodLinkNest "Roomandhour$Rings" (9 : Nat) ({ cls := "Roomandhour$Timetable", name := "<init>", desc := "()V" } : Jvm.MethodName) "Roomandhour")
def ab_nw4 : Cond := (Jvm.Cond.methodLinkNest "Roomandhour$Check" (9 : Nat) ({ cls := "Roomandhour$Timetable", name := "<init>", desc := "()V" } : Jvm.MethodName) "Roomandhour")
def ab_nw5 : Cond := (Jvm.Cond.methodLinkNest "RoomandhourLaw" (215 : Nat) ({ cls := "RoomandhourLaw$School", name := "<init>", desc := "()V" } : Jvm.MethodName) "RoomandhourLaw")
def ab_nw6 : Cond := (Jvm.Cond.fieldLinkNest "RoomandhourLaw" (14 : Nat) "RoomandhourLaw$School" "days" "I" "RoomandhourLaw")
def ab_nw7 : Cond := (Jvm.Cond.fieldLinkNest "RoomandhourLaw" (20 : Nat) "RoomandhourLaw$School" "hours" "I" "RoomandhourLaw")
def ab_nw8 : Cond := (Jvm.Cond.fieldLinkNest "RoomandhourLaw" (29 : Nat) "RoomandhourLaw$School" "rooms" "I" "RoomandhourLaw")
def ab_nw9 : Cond := (Jvm.Cond.fieldLinkNest "RoomandhourLaw" (32 : Nat) "RoomandhourLaw$School" "seats" "[I" "RoomandhourLaw")
def ab_nw10 : Cond := (Jvm.Cond.fieldLinkNest "RoomandhourLaw" (40 : Nat) "RoomandhourLaw$School" "classes" "I" "RoomandhourLaw")
def ab_nw11 : Cond := (Jvm.Cond.fieldLinkNest "RoomandhourLaw" (43 : Nat) "RoomandhourLaw$School" "pupils" "[I" "RoomandhourLaw")
def ab_nw12 : Cond := (Jvm.Cond.fieldLinkNest "RoomandhourLaw" (46 : Nat) "RoomandhourLaw$School" "home" "[I" "RoomandhourLaw")
def ab_nw13 : Cond := (Jvm.Cond.fieldLinkNest "RoomandhourLaw" (52 : Nat) "RoomandhourLaw$School" "teachers" "I" "RoomandhourLaw")
def ab_nw14 : Cond := (Jvm.Cond.fieldLinkNest "RoomandhourLaw" (59 : Nat) "RoomandhourLaw$School" "lessons" "I" "RoomandhourLaw")
def ab_nw15 : Cond := (Jvm.Cond.fieldLinkNest "RoomandhourLaw" (62 : Nat) "RoomandhourLaw$School" "classOf" "[I" "RoomandhourLaw")
def ab_nw16 : Cond := (Jvm.Cond.fieldLinkNest "RoomandhourLaw" (65 : Nat) "RoomandhourLaw$School" "teacherOf" "[I" "RoomandhourLaw")
def ab_nw17 : Cond := (Jvm.Cond.fieldLinkNest "RoomandhourLaw" (68 : Nat) "RoomandhourLaw$School" "lengthOf" "[I" "RoomandhourLaw")
def ab_nw18 : Cond := (Jvm.Cond.fieldLinkNest "RoomandhourLaw" (78 : Nat) "RoomandhourLaw$School" "rules" "I" "RoomandhourLaw")
def ab_nw19 : Cond := (Jvm.Cond.fieldLinkNest "RoomandhourLaw" (75 : Nat) "RoomandhourLaw$School" "kind" "[I" "RoomandhourLaw")
def ab_nw20 : Cond := (Jvm.Cond.fieldLinkNest "RoomandhourLaw" (81 : Nat) "RoomandhourLaw$School" "a" "[I" "RoomandhourLaw")
def ab_nw21 : Cond := (Jvm.Cond.fieldLinkNest "RoomandhourLaw" (84 : Nat) "RoomandhourLaw$School" "b" "[I" "RoomandhourLaw")
def ab_nw22 : Cond := (Jvm.Cond.fieldLinkNest "RoomandhourLaw" (90 : Nat) "RoomandhourLaw$School" "weights" "[I" "RoomandhourLaw")
def ab_nw23 : Cond := (Jvm.Cond.fieldLinkNest "RoomandhourLaw" (99 : Nat) "RoomandhourLaw$School" "tables" "[[I" "RoomandhourLaw")
def ab_nw24 : Cond := (Jvm.Cond.fieldLinkNest "RoomandhourLaw" (106 : Nat) "RoomandhourLaw$School" "broken" "[I" "RoomandhourLaw")
def ab_nw25 : Cond := (Jvm.Cond.fieldLinkNest "RoomandhourLaw" (103 : Nat) "RoomandhourLaw$School" "many" "I" "RoomandhourLaw")
def ab_nest : List Cond := [ab_nw0, ab_nw1, ab_nw2, ab_nw3, ab_nw4, ab_nw5, ab_nw6, ab_nw7, ab_nw8, ab_nw9, ab_nw10, ab_nw11, ab_nw12, ab_nw13, ab_nw14, ab_nw15, ab_nw16, ab_nw17, ab_nw18, ab_nw19, ab_nw20, ab_nw21, ab_nw22, ab_nw23, ab_nw24, ab_nw25]
theorem inlX0 : ∀ w ∈ wsX00, w ∈ wsL_law := fun _ h => List.mem_append_left _ (List.mem_append_left _ (List.mem_append_left _ (List.mem_append_left _ (List.mem_append_left _ (List.mem_append_right _ h)))))
theorem inlX1 : ∀ w ∈ wsX10, w ∈ wsL_law := fun _ h => List.mem_append_left _ (List.mem_append_left _ (List.mem_append_left _ (List.mem_append_left _ (List.mem_append_left _ (List.mem_append_left _ (List.mem_append_right _ h))))))
theorem inlX2 : ∀ w ∈ wsX20, w ∈ wsL_law := fun _ h => List.mem_append_left _ (List.mem_append_left _ (List.mem_append_left _ (List.mem_append_left _ (List.mem_append_left _ (List.mem_append_left _ (List.mem_append_left _ (List.mem_append_left _ (List.mem_append_left _ (List.mem_append_left _ (List.mem_append_left _ (List.mem_append_left _ (List.mem_append_left _ (List.mem_append_right _ h)))))))))))))
theorem inlX3 : ∀ w ∈ wsX30, w ∈ wsL_law := fun _ h => List.mem_append_left _ (List.mem_append_left _ (List.mem_append_left _ (List.mem_append_left _ (List.mem_append_left _ (List.mem_append_left _ (List.mem_append_left _ (List.mem_append_left _ (List.mem_append_left _ (List.mem_append_left _ (List.mem_append_left _ (List.mem_append_left _ (List.mem_append_right _ h))))))))))))
theorem inlX4 : ∀ w ∈ wsX40, w ∈ wsL_law := fun _ h => List.mem_append_left _ (List.mem_append_left _ (List.mem_append_left _ (List.mem_append_left _ (List.mem_append_left _ (List.mem_append_left _ (List.mem_append_left _ (List.mem_append_right _ h)))))))
theorem inlX5 : ∀ w ∈ wsX50, w ∈ wsL_law := fun _ h => List.mem_append_left _ (List.mem_append_left _ (List.mem_append_left _ (List.mem_append_left _ (List.mem_append_left _ (List.mem_append_left _ (List.mem_append_left _ (List.mem_append_left _ (List.mem_append_left _ (List.mem_append_right _ h)))))))))
theorem inlX6 : ∀ w ∈ wsX60, w ∈ wsL_law := fun _ h => List.mem_append_left _ (List.mem_append_left _ (List.mem_append_left _ (List.mem_append_left _ (List.mem_append_left _ (List.mem_append_left _ (List.mem_append_left _ (List.mem_append_left _ (List.mem_append_left _ (List.mem_append_left _ (List.mem_append_left _ (List.mem_append_left _ (List.mem_append_left _ (List.mem_append_left _ (List.mem_append_left _ (List.mem_append_right _ h)))))))))))))))
theorem inlX7 : ∀ w ∈ wsX70, w ∈ wsL_law := fun _ h => List.mem_append_left _ (List.mem_append_left _ (List.mem_append_left _ (List.mem_append_left _ (List.mem_append_left _ (List.mem_append_left _ (List.mem_append_left _ (List.mem_append_left _ (List.mem_append_left _ (List.mem_append_left _ (List.mem_append_left _ (List.mem_append_right _ h)))))))))))
theorem inlX8 : ∀ w ∈ wsX80, w ∈ wsL_law := fun _ h => List.mem_append_left _ (List.mem_append_left _ (List.mem_append_left _ (List.mem_append_left _ (List.mem_append_left _ (List.mem_append_left _ (List.mem_append_left _ (List.mem_append_left _ (List.mem_append_right _ h))))))))
theorem inlX9 : ∀ w ∈ wsX90, w ∈ wsL_law := fun _ h => List.mem_append_left _ (List.mem_append_left _ (List.mem_append_left _ (List.mem_append_left _ (List.mem_append_left _ (List.mem_append_left _ (List.mem_append_left _ (List.mem_append_left _ (List.mem_append_left _ (List.mem_append_left _ (List.mem_append_left _ (List.mem_append_left _ (List.mem_append_left _ (List.mem_append_left _ (List.mem_append_right _ h))))))))))))))
theorem inlX10 : ∀ w ∈ wsX100, w ∈ wsL_law := fun _ h => List.mem_append_left _ (List.mem_append_left _ (List.mem_append_left _ (List.mem_append_left _ (List.mem_append_left _ (List.mem_append_left _ (List.mem_append_left _ (List.mem_append_left _ (List.mem_append_left _ (List.mem_append_left _ (List.mem_append_right _ h))))))))))
theorem inlX11 : ∀ w ∈ wsX110, w ∈ wsL_law := fun _ h => List.mem_append_left _ (List.mem_append_left _ (List.mem_append_left _ (List.mem_append_left _ (List.mem_append_left _ (List.mem_append_left _ (List.mem_append_left _ (List.mem_append_left _ (List.mem_append_left _ (List.mem_append_left _ (List.mem_append_left _ (List.mem_append_left _ (List.mem_append_left _ (List.mem_append_left _ (List.mem_append_left _ (List.mem_append_left _ (List.mem_append_left _ (List.mem_append_right _ h)))))))))))))))))
theorem inlX12 : ∀ w ∈ wsX120, w ∈ wsL_law := fun _ h => List.mem_append_left _ (List.mem_append_left _ (List.mem_append_left _ (List.mem_append_left _ (List.mem_append_left _ (List.mem_append_left _ (List.mem_append_left _ (List.mem_append_left _ (List.mem_append_left _ (List.mem_append_left _ (List.mem_append_left _ (List.mem_append_left _ (List.mem_append_left _ (List.mem_append_left _ (List.mem_append_left _ (List.mem_append_left _ (List.mem_append_right _ h))))))))))))))))
theorem ab_clin : ∀ (ci : Nat) (q : vw_C), ab_cl[ci]? = some q → ∀ w ∈ u_ws q.1 q.2.1 q.2.2, w ∈ wsL_law := by
  intro ci q h
  match ci, h with
  | 0, h => cases h; exact inlX0
  | 1, h => cases h; exact inlX1
  | 2, h => cases h; exact inlX2
  | 3, h => cases h; exact inlX3
  | 4, h => cases h; exact inlX4
  | 5, h => cases h; exact inlX5
  | 6, h => cases h; exact inlX6
  | 7, h => cases h; exact inlX7
  | 8, h => cases h; exact inlX8
  | 9, h => cases h; exact inlX9
  | 10, h => cases h; exact inlX10
  | 11, h => cases h; exact inlX11
  | 12, h => cases h; exact inlX12
  | n + 13, h => simp [ab_cl, vwCl] at h
theorem ab_w_arr_int : Cond.arrayClass .int ∈ wsL_law := List.mem_of_getElem? (i := 0) (by decide +kernel)
theorem ab_w_arr_byte : Cond.arrayClass .byte ∈ wsL_law := List.mem_of_getElem? (i := 59) (by decide +kernel)
theorem ab_w_oi1 : Cond.instanceMethod objectInit ∈ wsL_law := List.mem_of_getElem? (i := 12) (by decide +kernel)
theorem ab_w_oi2 : Cond.code objectInit ⟨#[0xb1]⟩ 1 none ∈ wsL_law := List.mem_of_getElem? (i := 13) (by decide +kernel)
theorem ab_w_cp1 : Cond.native arraycopyName ∈ wsL_law := List.mem_of_getElem? (i := 385) (by decide +kernel)
theorem ab_w_cp2 : Cond.static arraycopyName ∈ wsL_law := List.mem_of_getElem? (i := 386) (by decide +kernel)
theorem ab_w_mx1 : Cond.static Lib.Math.max.name ∈ wsL_law := List.mem_of_getElem? (i := 578) (by decide +kernel)
theorem ab_w_mx2 : Cond.initialized "java/lang/Math" ∈ wsL_law := List.mem_of_getElem? (i := 442) (by decide +kernel)
theorem ab_w_mx3 : Cond.code Lib.Math.max.name Lib.Math.max.code 2 (some .int) ∈ wsL_law := List.mem_of_getElem? (i := 579) (by decide +kernel)
theorem ab_w_mn1 : Cond.static Lib.Math.min.name ∈ wsL_law := List.mem_of_getElem? (i := 441) (by decide +kernel)
theorem ab_w_mn3 : Cond.code Lib.Math.min.name Lib.Math.min.code 2 (some .int) ∈ wsL_law := List.mem_of_getElem? (i := 443) (by decide +kernel)
theorem ab_w_cp3 : Cond.initialized "java/lang/System" ∈ wsL_law := List.mem_of_getElem? (i := 387) (by decide +kernel)
def ab_strs : List (Nat × String) := [(109, "there are 1 or 2 days with 1 to 3 hours"), (120, "a rule names a slot"), (162, "a room has 1 to 99 seats"), (167, "there are 3 rooms"), (435, "no such room"), (143, "a class has 1 to 99 pupils"), (148, "there are 4 classes"), (160, "there are 4 teachers"), (174, "no such class"), (433, "no such teacher"), (180, "a lesson has 1 or 2 slots"), (185, "there are 6 lessons"), (200, "no such rule"), (205, "there are 10 rules"), (344, "a weight is 0 to 9"), (429, "there is no timetable"), (431, "no such lesson"), (239, "no such value is left"), (326, "no such set of rules"), (439, "no such day"), (297, "no image of these lessons"), (303, "a value of the image does not exist any more"), (361, "the timetable is not good"), (388, "not a set of lessons"), (393, "not a set of lessons with this one"), (437, "no such slot")]
theorem ab_nest_w : ∀ w ∈ ab_nest, (∃ a i b n d h, w = Cond.fieldLinkNest a i b n d h) ∨ ∃ a i x h, w = Cond.methodLinkNest a i x h := by
  unfold ab_nest
  simp only [List.forall_mem_cons]
  exact ⟨Or.inr ⟨_, _, _, _, rfl⟩, Or.inr ⟨_, _, _, _, rfl⟩, Or.inr ⟨_, _, _, _, rfl⟩, Or.inr ⟨_, _, _, _, rfl⟩, Or.inr ⟨_, _, _, _, rfl⟩, Or.inr ⟨_, _, _, _, rfl⟩, Or.inl ⟨_, _, _, _, _, _, rfl⟩, Or.inl ⟨_, _, _, _, _, _, rfl⟩, Or.inl ⟨_, _, _, _, _, _, rfl⟩, Or.inl ⟨_, _, _, _, _, _, rfl⟩, Or.inl ⟨_, _, _, _, _, _, rfl⟩, Or.inl ⟨_, _, _, _, _, _, rfl⟩, Or.inl ⟨_, _, _, _, _, _, rfl⟩, Or.inl ⟨_, _, _, _, _, _, rfl⟩, Or.inl ⟨_, _, _, _, _, _, rfl⟩, Or.inl ⟨_, _, _, _, _, _, rfl⟩, Or.inl ⟨_, _, _, _, _, _, rfl⟩, Or.inl ⟨_, _, _, _, _, _, rfl⟩, Or.inl ⟨_, _, _, _, _, _, rfl⟩, Or.inl ⟨_, _, _, _, _, _, rfl⟩, Or.inl ⟨_, _, _, _, _, _, rfl⟩, Or.inl ⟨_, _, _, _, _, _, rfl⟩, Or.inl ⟨_, _, _, _, _, _, rfl⟩, Or.inl ⟨_, _, _, _, _, _, rfl⟩, Or.inl ⟨_, _, _, _, _, _, rfl⟩, Or.inl ⟨_, _, _, _, _, _, rfl⟩, fun _ h => absurd h List.not_mem_nil⟩
def ab_bad : List Cond := (vy_at RX11 111 "java/lang/IllegalArgumentException" 7 prog_19_method_2_code ["java/lang/RuntimeException", "java/lang/Exception"] ++ vy_at RX11 122 "java/lang/IllegalStateException" 7 prog_20_method_2_code ["java/lang/RuntimeException", "java/lang/Exception"] ++ vy_at RX11 176 "java/lang/IndexOutOfBoundsException" 7 prog_21_method_2_code ["java/lang/RuntimeException", "java/lang/Exception"] ++ vy_at RX11 241 "java/util/NoSuchElementException" 13 prog_29_method_4_code ["java/lang/RuntimeException", "java/lang/Exception"]).filter (fun w => !goodWord w)
theorem ab_bad_k : ab_bad.all (fun w => match w with | .castable _ _ => true | .declares _ => true | _ => false) = true := by decide +kernel
