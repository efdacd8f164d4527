abbrev zz_w := @Stand.multianewarray2F
