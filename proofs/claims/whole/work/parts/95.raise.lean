theorem st_raise {X M : Sg} (hI : Inv X M) (n f r : Int32) : p_X5_raise 0 n f r X (fun u X' => p_X6_raise 0 n f r M (fun u' M' => Z X' M' u u')) := sorry
