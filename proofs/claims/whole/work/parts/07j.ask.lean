/-! ===== questions leave the state ===== -/
section QS
variable {S : St}
theorem st_size (x : Int32) : (sp_size S x).2.2 = S := by
  unfold sp_size askB
  repeat' split
  all_goals rfl
theorem st_hasKey (x key : Int32) : (sp_hasKey S x key).2.2 = S := by
  unfold sp_hasKey askB
  repeat' split
  all_goals rfl
theorem st_hasValue (x v : Int32) : (sp_hasValue S x v).2.2 = S := by
  unfold sp_hasValue askB
  repeat' split
  all_goals rfl
theorem st_get (x key or_ : Int32) : (sp_get S x key or_).2.2 = S := by
  unfold sp_get askB
  repeat' split
  all_goals rfl
theorem st_keyAt (x y : Int32) : (sp_keyAt S x y).2.2 = S := by
  unfold sp_keyAt askP
  repeat' split
  all_goals rfl
theorem st_valueAt (x y : Int32) : (sp_valueAt S x y).2.2 = S := by
  unfold sp_valueAt askP
  repeat' split
  all_goals rfl
theorem st_placeOf (x key : Int32) : (sp_placeOf S x key).2.2 = S := by
  unfold sp_placeOf askB
  repeat' split
  all_goals rfl
theorem st_areEqual (x y : Int32) : (sp_areEqual S x y).2.2 = S := by
  unfold sp_areEqual ask2
  repeat' split
  all_goals rfl
theorem st_areAlike (x y : Int32) : (sp_areAlike S x y).2.2 = S := by
  unfold sp_areAlike ask2
  repeat' split
  all_goals rfl
theorem st_hash (x : Int32) : (sp_hash S x).2.2 = S := by
  unfold sp_hash askB
  repeat' split
  all_goals rfl
theorem st_sum (x : Int32) : (sp_sum S x).2.2 = S := by
  unfold sp_sum askB
  repeat' split
  all_goals rfl
theorem st_mean (x : Int32) : (sp_mean S x).2.2 = S := by
  unfold sp_mean askB
  repeat' split
  all_goals rfl
theorem st_outputAt (x : Int32) : (sp_outputAt S x).2.2 = S := by
  unfold sp_outputAt
  repeat' split
  all_goals rfl
theorem st_hasNext (x : Int32) : (sp_hasNext S x).2.2 = S := by
  unfold sp_hasNext
  repeat' split
  all_goals rfl
theorem st_bookOf (x : Int32) : (sp_bookOf S x).2.2 = S := by
  unfold sp_bookOf
  repeat' split
  all_goals rfl
theorem st_isAddRefused (x y : Int32) : (sp_isAddRefused S x y).2.2 = S := by
  unfold sp_isAddRefused
  repeat' split
  all_goals rfl
theorem st_isNothingRefused (x y : Int32) : (sp_isNothingRefused S x y).2.2 = S := by
  unfold sp_isNothingRefused
  repeat' split
  all_goals rfl
end QS
