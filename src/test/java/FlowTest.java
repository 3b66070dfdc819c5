/** The faults 11 to 15, and items, reached, isSet and raised (promises 32 to 35). */
public final class FlowTest {
  public static void main(String[] args) {
    unreached();
    returns();
    unset();
    whenTrueAndFalse();
    bothWays();
    loops();
    tries();
    uncaught();
    never();
    onlyCleanBodies();
    items();
    reached();
    isSet();
    raised();
    Door.end();
  }

  private static void unreached() {
    Door.body("return ; @12 ;");
    Door.body("return ; { @12 x = 1 ; x = 2 ; } x = 3 ;");
    Door.body("return ; { { } } x = 3 ;");
    Door.body("return ; { { @12 ; } }");
    Door.body("{ return ; } @12 int z ; ;");
    Door.body("throw null ; @12 tell 1 ; tell 2 ;");
    Door.body("if ( true ) return ; tell 1 ;");
    Door.body("if ( true ) return ; else return ; @12 tell 1 ;");
    Door.body("if ( false ) { return ; @12 ; } tell 1 ;");
    Door.body("while ( true ) ; @12 tell 1 ;");
    Door.body("while ( true ) break ; tell 1 ;");
    Door.body("while ( false ) @12 ;");
    Door.body("while ( false ) { @12 ; ; }");
    Door.body("while ( false ) { }");
    Door.body("while ( false ) { { @12 tell 1 ; return ; ; } } tell 1 ;");
    Door.body("while ( 1 < 2 ) { if ( x < 1 ) { continue ; @12 ; } } @12 ;");
    Door.body("final boolean z = true ; while ( z ) ; @12 ;");
    Door.body("while ( true ) { while ( true ) break ; } @12 ;");
    Door.body("do { break ; @12 ; } while ( true ) ; tell 1 ;");
    Door.body("do continue ; while ( false ) ; tell 1 ;");
    Door.body("do continue ; while ( true ) ; @12 tell 1 ;");
    Door.body("do return ; while ( x < 1 ) ; @12 tell 1 ;");
    Door.body("do ; while ( true ) ; @12 tell 1 ;");
    Door.body("do ; while ( 2 < 1 ) ; tell 1 ;");
    Door.body("try { return ; } finally { } @12 ;");
    Door.body("try { return ; } catch ( Slip z ) { } ;");
    Door.body("try { ; } finally { return ; } @12 ;");
    Door.body("try { return ; } catch ( Slip z ) { return ; @12 ; } finally { ; } @12 ;");
    Door.body("while ( true ) { try { break ; } finally { return ; } } @12 ;");
    Door.body("while ( true ) { try { break ; } finally { ; } } ;");
    Door.body("while ( true ) { try { ; } finally { break ; } } ;");
    Door.body("do { try { continue ; } catch ( Slip z ) { return ; } finally { return ; } } while ( false ) ; @12 ;");
    Door.body("while ( true ) { try { while ( true ) { try { break ; } finally { } } break ; } finally { throw null ; } } @12 ;");
    Door.body("while ( true ) { return ; @12 break ; } @12 ;");
    // In what is not reached nothing is: the break is not either.
    Door.body("while ( true ) { while ( false ) { @12 break ; } { return ; { @12 break ; } } }");
  }

  private static void returns() {
    Door.faults("class a { int f ( ) { @13 } int g ( ) { while ( true ) ; } int h ( ) { throw null ; } void i ( ) { } "
        + "int j ( int x ) { if ( x < 1 ) return 1 ; @13 } int k ( int x ) { if ( x < 1 ) return 1 ; else return 2 ; } a ( ) { } "
        + "@3 z l ( ) { @13 } static int m ( ) { ; { } @13 } int n ( ) { while ( true ) { break ; } @13 } }");
    Door.faults("class a { int f ( int x ) { do ; while ( x < 1 ) ; @13 } int g ( int x ) { do ; while ( true ) ; } int h ( int x ) { while ( x < 1 ) x += 1 ; @13 } "
        + "int i ( int x ) { do { break ; } while ( true ) ; return x ; } int j ( ) { try { return 1 ; } catch ( Slip z ) { } @13 } int k ( ) { try { ; } finally { return 1 ; } } "
        + "int l ( ) { try { return 1 ; } catch ( Slip z ) { return 2 ; } finally { ; } } boolean m ( boolean x ) { if ( x ) { return x ; } else if ( x ) return x ; @13 } }");
  }

  private static void unset() {
    Door.body("int z ; tell @11 z ; tell @11 z ; z = 1 ; tell z ;");
    Door.body("int z ; @11 z += 1 ; tell z ;");
    Door.body("int z ; z = @11 z + 1 ; int w = @11 w ; int v = ( v = 1 ) + v ;");
    Door.body("int z ; z = ( z = 1 ) + z ; int w ; tell ( w = 1 ) + w ; int v ; tell @11 v + ( v = 1 ) ;");
    Door.body("int z ; f ( z = 1 , z ) ; int w ; f ( @11 w , w = 1 ) ;");
    Door.body("Object z ; z = y ; a w ; tell @11 w . k ; @11 w . k = 1 ; a v ; @11 v . f ( 1 , v = null ) ;");
    Door.body("int z ; { z = 1 ; } tell z ; int w ; { int v = 1 ; } { int v ; tell @11 v ; } tell @11 w ;");
    Door.body("{ int z = 1 ; } int z = @11 z ;");
    Door.body("int z ; if ( x < 1 ) z = 1 ; tell @11 z ; int w ; if ( x < 1 ) w = 1 ; else w = 2 ; tell w ;");
    Door.body("int z ; if ( x < 1 ) z = 1 ; else return ; tell z ; int w ; if ( x < 1 ) throw null ; else { w = 1 ; } tell w ;");
    Door.body("int z ; return ; @12 tell z ;");
    Door.body("return ; @12 int z ; tell z ;");
    Door.body("int z ; ( z ) = 1 ; tell z ;");
  }

  private static void whenTrueAndFalse() {
    Door.body("int z ; if ( x < 1 && ( z = 1 ) < 2 ) tell z ; else tell @11 z ;");
    Door.body("int z ; if ( x < 1 || ( z = 1 ) < 2 ) tell @11 z ; else tell z ;");
    Door.body("int z ; if ( ! ( x < 1 && ( z = 1 ) < 2 ) ) tell @11 z ; else tell z ;");
    Door.body("int z ; if ( ! ( x < 1 || ( z = 1 ) < 2 ) ) tell z ; tell @11 z ;");
    Door.body("int z ; boolean w = x < 1 && ( z = 1 ) < 2 && z < 3 ; tell @11 z ;");
    Door.body("int z ; if ( x < 1 && ( z = 1 ) < 2 || x == 5 ) tell @11 z ; int w ; if ( x == 5 || x < 1 && ( w = 1 ) < 2 ) tell @11 w ;");
    Door.body("int z ; if ( ( x < 1 || ( z = 1 ) < 2 ) && x == 5 ) ; else tell @11 z ; int w ; if ( x == 5 && ( x < 1 || ( w = 1 ) < 2 ) ) ; else tell @11 w ;");
    Door.body("int z ; if ( x < 1 && ( z = 1 ) < 2 || x == 5 && ( z = 2 ) < 3 ) tell z ; else tell @11 z ;");
    Door.body("int z ; if ( ( x < 1 || ( z = 1 ) < 2 ) && ( x == 5 || ( z = 2 ) < 3 ) ) tell @11 z ; else tell z ;");
    Door.body("int z ; if ( ( x < 1 && ( z = 1 ) < 2 ) == true ) tell @11 z ;");
    Door.body("int z ; if ( x < 1 ? ( z = 1 ) < 2 : ( z = 3 ) < 4 ) tell z ; tell z ; int w ; if ( x < 1 ? ( w = 1 ) < 2 : x < 3 ) tell @11 w ;");
    Door.body("int z ; if ( x < 1 ? ( z = 1 ) < 2 : false ) tell z ; else tell @11 z ;");
    Door.body("int z ; if ( x < 1 && ( z = 1 ) < 2 ? z < 3 : true ) ; tell x < 1 && ( z = 2 ) < 3 ? z : 1 ;");
    Door.body("int z ; tell ( x < 1 && ( z = 2 ) < 3 ) ? 1 : @11 z ; int w ; tell x < 1 ? w = 1 : 2 ; tell @11 w ;");
    Door.body("int z ; if ( false && x < z ) ; int w ; if ( false ) tell w ; else w = 1 ; tell w ;");
    Door.body("int z ; if ( true ) z = 1 ; tell z ; int w ; if ( true || x < w ) ; final boolean u = false ; int v ; if ( u ) tell v ; tell @11 v ;");
    Door.body("int z ; if ( true && false || 1 < 2 ) z = 1 ; tell z ;");
    Door.body("int z ; if ( ( x < 1 || true ) ) z = 1 ; tell z ; int w ; if ( n < 1 ) w = 1 ; tell @11 w ;");
  }

  /** What is SET WHEN TRUE and WHEN FALSE behind ? : is what is so behind both its parts; behind any EXPR it is what is SET both ways. */
  private static void bothWays() {
    Door.body("int z ; if ( x < 1 ? x < 2 && ( z = 1 ) < 2 : x < 3 && ( z = 2 ) < 3 ) tell z ; else tell @11 z ;");
    Door.body("int z ; if ( x < 1 ? x < 2 || ( z = 1 ) < 2 : x < 3 || ( z = 2 ) < 3 ) tell @11 z ; else tell z ;");
    Door.body("int z ; if ( x < 1 ? x < 2 && ( z = 1 ) < 2 : ( z = 2 ) < 3 ) tell z ; else tell @11 z ;");
    Door.body("int z ; if ( x < 1 ? ( z = 2 ) < 3 : x < 2 || ( z = 1 ) < 2 ) tell @11 z ; else tell z ;");
    Door.body("int z ; if ( x < 1 ? true : ( z = 1 ) < 2 ) tell @11 z ; else tell z ;");
    Door.body("int z ; if ( x < 1 ? ( z = 1 ) < 2 : true ) tell @11 z ; else tell z ;");
    Door.body("int z ; if ( x < 1 ? false : ( z = 1 ) < 2 ) tell z ; else tell @11 z ;");
    Door.body("int z ; if ( ( z = 1 ) < 2 ? x < 1 : x < 2 ) ; tell z ;");
    Door.body("int z ; tell ( x < 1 && ( z = 1 ) < 2 ) == ( @11 z < 1 ) ;");
    Door.body("int z ; tell x < 1 && ( z = 1 ) < 2 ; tell @11 z ;");
    Door.body("int z ; tell x < 1 || ( z = 1 ) < 2 ; { tell @11 z ; }");
    Door.body("int z ; boolean w = x < 1 && ( z = 1 ) < 2 ; w = x < 1 || ( z = 1 ) < 2 ; tell @11 z ;");
    Door.faults("class a { void g ( boolean x , int y ) { } void f ( int x ) { int z ; g ( x < 1 && ( z = 1 ) < 2 , @11 z ) ; int w ; g ( x < 1 || ( w = 1 ) < 2 , @11 w ) ; } }");
    Door.faults("class a { void f ( @3 b u , int x ) { int v ; if ( u ? x < 1 && ( v = 1 ) < 2 : x < 2 && ( v = 2 ) < 3 ) tell @11 v ; } }");
    String text = "class a { void f ( int x ) { int z ; tell x < 1 && ( z = 1 ) < 2 ; ; tell x < 1 || ( z = 1 ) < 2 ; ; } }";
    Sourcedoor door = Door.world(text);
    Door.due("behind &&", door.isSet(0, Door.place(text, ";", 2), 25), 0);
    Door.due("behind ||", door.isSet(0, Door.place(text, ";", 4), 25), 0);
    // Behind each of the words that go away all are SET.
    Door.body("int z ; while ( x < 3 ) { if ( x < 1 ) break ; else z = 1 ; tell z ; }");
    Door.body("int z ; while ( x < 3 ) { if ( x < 1 ) continue ; else z = 1 ; tell z ; }");
    Door.body("int z ; do { if ( x < 1 ) { { continue ; } } else z = 1 ; tell z ; } while ( x < 3 ) ;");
    Door.body("int z ; if ( x < 1 ) return ; else z = 1 ; tell z ;");
    Door.body("int z ; if ( x < 1 ) throw null ; else z = 1 ; tell z ;");
    Door.body("int w ; if ( x < 1 ) { return ; @12 int z ; tell z ; tell w ; } int v ; tell @11 v ; tell @11 w ;");
    // A try in the BLOCK, a catch and the finally of another one.
    Door.body("int z ; try { try { ; } catch ( Slip w ) { } } catch ( Slip w ) { tell @11 z ; }");
    Door.body("int z ; try { try { z = 1 ; } finally { } } catch ( Slip w ) { tell @11 z ; z = 2 ; } finally { tell @11 z ; } tell z ;");
    Door.body("int z ; try { z = 1 ; try { } finally { } } catch ( Slip w ) { } tell @11 z ;");
    Door.body("int z ; try { } catch ( Slip w ) { try { z = 1 ; } catch ( Slip v ) { } tell @11 z ; } catch ( Throw w ) { tell @11 z ; }");
    Door.body("int z ; try { } finally { try { z = 1 ; } finally { tell @11 z ; } tell z ; } tell z ;");
  }

  private static void loops() {
    Door.body("int z ; while ( x < 1 ) { z = 1 ; tell z ; } tell @11 z ;");
    Door.body("int z ; while ( x < 1 && ( z = 1 ) < 2 ) tell z ; tell @11 z ;");
    Door.body("int z ; while ( x < 1 || ( z = 1 ) < 2 ) tell @11 z ; tell z ;");
    Door.body("int z ; while ( true ) { z = 1 ; break ; } tell z ;");
    Door.body("int z ; while ( true ) { if ( x < 1 ) break ; z = 1 ; break ; } tell @11 z ;");
    Door.body("int z ; while ( true ) { if ( x < 1 ) { z = 2 ; break ; } z = 1 ; break ; } tell z ;");
    Door.body("int z ; while ( ( z = x ) < 1 ) { if ( x < 2 ) break ; } tell z ;");
    Door.body("int z ; do z = 1 ; while ( z < 1 ) ; tell z ;");
    Door.body("int z ; do { if ( x < 1 ) continue ; z = 1 ; } while ( @11 z < 1 ) ;");
    Door.body("int z ; do { if ( x < 1 ) break ; z = 1 ; } while ( z < 1 ) ; tell @11 z ;");
    Door.body("int z ; do { z = 1 ; if ( x < 1 ) continue ; } while ( z < 1 ) ; tell z ;");
    Door.body("int z ; do ; while ( ( z = x ) < 1 ) ; tell z ;");
    // Of several continues and breaks each counts, not just the last one.
    Door.body("int z ; do { if ( x < 1 ) continue ; z = 1 ; if ( x < 2 ) continue ; } while ( @11 z < 1 ) ;");
    Door.body("int z ; do { if ( x < 1 ) break ; z = 1 ; if ( x < 2 ) break ; } while ( z < 1 ) ; tell @11 z ;");
  }

  private static void tries() {
    Door.body("int z ; try { z = 1 ; } catch ( Slip w ) { tell w ; } tell @11 z ;");
    Door.body("int z ; try { z = 1 ; } catch ( Slip w ) { z = 2 ; } tell z ;");
    Door.body("int z ; try { z = 1 ; } catch ( Slip w ) { return ; } tell z ;");
    Door.body("int z ; try { z = 1 ; } catch ( Slip w ) { tell @11 z ; z = 3 ; } finally { tell @11 z ; } tell z ;");
    Door.body("int z ; try { ; } catch ( Slip w ) { ; } finally { z = 1 ; } tell z ;");
    Door.body("int z ; try { z = 1 ; } finally { ; } tell z ;");
    Door.body("int z ; try { return ; } finally { tell @11 z ; }");
    Door.body("int z ; try { ; } catch ( Slip w ) { z = 1 ; } tell @11 z ; int v ; try { ; } catch ( Null w ) { ; } catch ( Slip w ) { v = 1 ; } tell @11 v ;");
  }

  private static void uncaught() {
    String e = "class e extends Throw { } class d extends e { } class s extends Slip { } ";
    Door.faults(e + "class a { void f ( ) throws e { } void g ( ) { @14 f ( ) ; this . @14 f ( ) ; } void h ( ) throws e { f ( "
        + ") ; } void i ( ) throws d { @14 f ( ) ; } void j ( ) throws Throw { f ( ) ; } }");
    Door.faults(e + "class a { void f ( ) { @14 throw new e ( ) ; } void g ( ) throws Throw { throw new d ( ) ; } void h ( ) { "
        + "throw new s ( ) ; } void i ( Throw x ) { @14 throw x ; } void j ( ) { throw null ; } }");
    Door.faults(e + "class a { a ( ) throws e { } a ( int x ) throws Slip { } Object f ( ) { return @14 new a ( ) ; } Object g "
        + "( ) { return new a ( 1 ) ; } }");
    Door.faults(e + "class a { a ( ) throws e { } a ( int x ) { @14 this ( ) ; } } class @14 b extends a { } class c extends a "
        + "{ @14 c ( ) { } c ( int x ) { @14 super ( ) ; } c ( long x ) throws e { } }");
    Door.faults(e + "class a { void f ( ) throws d , e , s { } void g ( ) { try { f ( ) ; } catch ( e x ) { } try { @14 f ( ) "
        + "; } catch ( d x ) { } try { f ( ) ; } catch ( d x ) { } catch ( Throw x ) { } } }");
    Door.faults(e + "class a { void f ( ) throws e { } void g ( ) { try { f ( ) ; } catch ( e x ) { @14 f ( ) ; } finally { "
        + "@14 f ( ) ; } } void h ( ) { try { try { ; } finally { f ( ) ; } } catch ( e x ) { } } }");
    Door.faults("class a { void f ( ) throws e { } void g ( ) { @14 f ( ) ; } } class e extends Throw { }");
    Door.faults("class a { a ( ) throws e { } Object g ( ) { return @14 new a ( ) ; } } class e extends Throw { } class @14 b extends a { }");
    Door.faults(e + "class a { void f ( ) throws e { } void g ( ) { try { f ( ) ; } finally { return ; } } void h ( ) { try { "
        + "throw new e ( ) ; } finally { if ( true ) @14 f ( ) ; throw new s ( ) ; } } void i ( ) { try { ; } catch "
        + "( Slip x ) { f ( ) ; } finally { throw null ; } } }");
    Door.faults(e + "class a { static int f ( ) throws e { return 1 ; } int k = @14 f ( ) ; static int n = @14 f ( ) ; final "
        + "Object m = f ( @3 z ) ; }");
    Door.faults(e + "class a { int f ( int x ) throws e { return 1 ; } int g ( ) { return @14 f ( @14 f ( 1 ) ) ; } int h ( ) "
        + "throws @3 z , e { return f ( 1 ) ; } }");
    // REFS of PARAMS are none of those that it throws.
    Door.faults(e + "class a { void f ( a x , d y ) throws e { } void g ( ) { @14 f ( null , null ) ; } void h ( d x ) throws e { f ( null , x ) ; } "
        + "a ( a x , e y ) throws d { } Object i ( ) throws d { return new a ( null , null ) ; } }");
    // A FIELD ahead of all METHODS stands in no try, either.
    Door.faults("class a { int k = @14 f ( ) ; static int n = @14 g ( ) ; int f ( ) throws Throw { return 1 ; } static int g ( ) throws Throw { return 1 ; } }");
    // Where the UNIT ahead breaks off in a try, nothing of that is left.
    Door.faults("class a { void f ( ) { while ( true ) try { f ( ) ; @1", "class e extends Throw { } class b { static int k = @14 f ( ) ; static int f ( ) throws e { return 1 ; } }");
    Door.faults("class a { void f ( ) { try { } finally { @1", "class b { int k = @14 f ( ) ; int f ( ) throws Throw { @16 break ; } }");
  }

  private static void never() {
    String e = "class e extends Throw { } class d extends e { } class c extends d { } ";
    Door.faults(e + "class a { void f ( ) throws d { } void g ( ) { try { f ( ) ; } catch ( c x ) { } catch ( d x ) { } catch "
        + "( e x ) { } catch ( Throw x ) { } } }");
    Door.faults(e + "class a { void g ( ) { try { } catch ( @15 e x ) { } try { } catch ( Throw x ) { } try { } catch ( Slip x "
        + ") { } try { } catch ( Null x ) { } catch ( Slip x ) { } catch ( @15 Divide x ) { } } }");
    Door.faults(e + "class a { void f ( ) throws e { } void g ( ) { try { f ( ) ; } catch ( Throw x ) { } catch ( @15 e x ) { "
        + "} catch ( @15 Throw x ) { } } }");
    Door.faults(e + "class a { void f ( ) throws e { } void g ( ) { try { try { f ( ) ; } catch ( e x ) { } } catch ( @15 e x "
        + ") { } } void h ( ) { try { try { ; } catch ( Slip y ) { f ( ) ; } } catch ( e x ) { } } }");
    Door.faults(e + "class a { void f ( ) throws e { } void g ( ) { try { try { f ( ) ; } finally { return ; } } catch ( @15 e "
        + "x ) { } } void h ( ) { try { f ( ) ; } catch ( e x ) { } finally { return ; } } }");
    Door.faults(e + "class a { void g ( ) { try { throw new e ( ) ; } catch ( c x ) { } catch ( e x ) { } try { throw new c ( "
        + ") ; } catch ( e x ) { } } }");
    Door.faults(e + "class b extends e { } class a { void g ( ) { try { throw new d ( ) ; } catch ( d x ) { } catch ( @15 b x ) { } } }");
  }

  private static void onlyCleanBodies() {
    Door.faults("class a { int f ( ) { int z ; tell z ; tell @3 w ; } int g ( ) { @13 } a ( @3 z x ) { return ; @12 ; } int @2 g ( ) { @13 } }");
    Door.faults("class a { int h ( int x ) { int @2 x ; tell x ; } int k ; int @2 k ; int i ( ) { int z ; return @11 z ; } }");
    // ! && || are gone through by their signs, ? : without a TYPE as one that is not boolean.
    Door.faults("class a { void f ( @3 z u ) { int w ; if ( u && ( w = 1 ) < 2 ) tell w ; else tell @11 w ; int v ; if ( u "
        + "? ( v = 1 ) < 2 : u ) tell @11 v ; } }");
  }

  private static void items() {
    Door.due("items", Door.world("class a { int k = 1 ; void f ( ) { } }").items(0), 0);
    Door.due("items", Door.body("int z ; { } { ; tell 1 ; } if ( true ) ; else { } try { ; } catch ( Slip w ) { } finally { } while ( x < "
        + "1 ) x += 1 ; do { } while ( x < 1 ) ;").items(0), 14);
    Door.due("items", Door.world("class a { a ( ) { super ( ) ; ; } int f ( ) { return 1 ; } int f ( ) { return z ; } }").items(0), 3);
    Door.due("items with a fault of syntax", Door.world("class a { void f ( ) { ; ; } ").items(0), 0);
    Door.throwing("items", IndexOutOfBoundsException.class, () -> new Sourcedoor().items(4));
  }

  private static void reached() {
    String text = "class a { void f ( int x ) { int z = 1 ; while ( true ) { if ( x < 1 ) break ; else { continue ; } } { return ; } } }";
    Sourcedoor door = Door.faults(text);
    Door.due("reached local", door.reached(0, Door.place(text, "int", 1)), 3);
    Door.due("reached while", door.reached(0, Door.place(text, "while", 0)), 3);
    Door.due("reached while's block", door.reached(0, Door.place(text, "{", 2)), 1);
    Door.due("reached if", door.reached(0, Door.place(text, "if", 0)), 1);
    Door.due("reached break", door.reached(0, Door.place(text, "break", 0)), 1);
    Door.due("reached else's block", door.reached(0, Door.place(text, "{", 3)), 1);
    Door.due("reached block", door.reached(0, Door.place(text, "{", 4)), 1);
    Door.due("reached method's block", door.reached(0, Door.place(text, "{", 1)), -1);
    Door.due("reached else", door.reached(0, Door.place(text, "else", 0)), -1);
    Door.due("reached name", door.reached(0, Door.place(text, "z", 0)), -1);
    String lost = "class a { void f ( int x ) { return ; @12 while ( true ) { if ( x < 1 ) { break ; ; } tell 1 ; } while ( true ) ; } }";
    door = Door.world(lost);
    Door.due("lost while", door.reached(0, Door.place(lost, "while", 0)), 2);
    Door.due("lost if", door.reached(0, Door.place(lost, "if", 0)), 2);
    Door.due("lost break", door.reached(0, Door.place(lost, "break", 0)), 0);
    Door.due("lost tell", door.reached(0, Door.place(lost, "tell", 0)), 2);
    Door.due("lost last while", door.reached(0, Door.place(lost, "while", 1)), 0);
    Door.due("lost ;", door.reached(0, Door.place(lost, ";", 2)), 2);
    String parts = "class a { void f ( int x ) { return ; @12 if ( x < 1 ) tell 1 ; else { tell 2 ; return ; tell 3 ; } try { tell 4 ; } catch ( Slip z ) { tell 5 ; } finally { "
        + "tell 6 ; } do tell 7 ; while ( x < 1 ) ; } }";
    door = Door.faults(parts);
    for (int k = 0; k < 7; k++) Door.due("lost tell " + k, door.reached(0, Door.place(parts, "tell", k)), 2);
    Door.due("lost if with parts", door.reached(0, Door.place(parts, "if", 0)), 2);
    Door.due("lost else", door.reached(0, Door.place(parts, "{", 2)), 0);
    Door.due("lost try", door.reached(0, Door.place(parts, "try", 0)), 2);
    Door.due("lost do", door.reached(0, Door.place(parts, "do", 0)), 2);
    String bad = "class a { void f ( ) { ; tell z ; } void g ( ) { ; } }";
    door = Door.world(bad);
    Door.due("reached in a faulty body", door.reached(0, Door.place(bad, ";", 0)), -1);
    Door.due("reached in another one", door.reached(0, Door.place(bad, ";", 2)), 3);
    // Nothing of a UNIT with a FAULT SYNTAX is left, however long the ones behind it are.
    for (int many = 0; many < 20; many++) {
      String begin = many % 2 == 0 ? "super ( ) ; " : "";
      door = Door.world("class a { int f ( ) { ; ; ; { ; } if ( true ) ; else ; while ( true ) ; } int g", "class b { b ( ) { " + begin + Door.times(many / 2, ";") + "} int f ( ) { return 1 ; } }");
      Door.due("faults behind what is no UNIT", door.faults(1), "");
      for (int place = 0; place < door.ofUnit(0, 0); place++) {
        Door.due("reached in what is no UNIT", door.reached(0, place), -1);
        Door.due("set in what is no UNIT", door.isSet(0, place, 0), -1);
      }
    }
    Door.throwing("reached place", IndexOutOfBoundsException.class, () -> new Sourcedoor().reached(0, 0));
    Door.throwing("reached unit", IndexOutOfBoundsException.class, () -> new Sourcedoor().reached(4, 0));
  }

  private static void isSet() {
    String text = "class a { void f ( int x ) { int z ; if ( x < 1 ) z = 1 ; else { tell 2 ; return ; } tell z ; try { int w "
        + "; w = 1 ; } catch ( Slip v ) { tell 1 ; } { int w = 3 ; ; } } int g ( ) { tell u ; } }";
    Sourcedoor door = Door.world(text);
    int x = 23;
    int z = 25;
    int w = 22;
    int v = 21;
    int first = Door.place(text, "if", 0);
    Door.due("param", door.isSet(0, first, x), 1);
    Door.due("before", door.isSet(0, first, z), 0);
    Door.due("then", door.isSet(0, Door.place(text, "z", 1), z), 0);
    Door.due("else", door.isSet(0, Door.place(text, "return", 0), z), 0);
    Door.due("behind", door.isSet(0, Door.place(text, "tell", 1), z), 1);
    Door.due("not known yet", door.isSet(0, Door.place(text, "int", 1), z), -1);
    Door.due("not known", door.isSet(0, first, w), -1);
    Door.due("inner", door.isSet(0, Door.place(text, "w", 1), w), 0);
    Door.due("catch", door.isSet(0, Door.place(text, "tell", 2), v), 1);
    Door.due("no item", door.isSet(0, first + 1, z), -1);
    Door.due("later one of that name", door.isSet(0, Door.place(text, ";", 9), w), 1);
    Door.due("faulty body", door.isSet(0, Door.place(text, "tell", 3), z), -1);
    String lost = "class a { void f ( ) { int z ; return ; ; } }";
    String caught = "class a { void f ( int x ) { try { ; } catch ( Slip v ) { ; } { int w = 1 ; ; } } }";
    Door.due("the last item in a catch", Door.world(caught).isSet(0, Door.place(caught, ";", 1), v), 1);
    Door.due("behind the catch", Door.world(caught).isSet(0, Door.place(caught, "int", 1) - 1, v), -1);
    Door.due("the last item in a block", Door.world(caught).isSet(0, Door.place(caught, ";", 3), w), 1);
    Door.due("behind a return all are set", Door.world(lost).isSet(0, Door.place(lost, ";", 2), z), 1);
    String ends = "class a { void f ( int a , int N ) { ; } }";
    Door.due("the first name", Door.world(ends).isSet(0, Door.place(ends, ";", 0), 0), 1);
    Door.due("the last name", Door.world(ends).isSet(0, Door.place(ends, ";", 0), 39), 1);
    Door.throwing("isSet place", IndexOutOfBoundsException.class, () -> new Sourcedoor().isSet(0, 0, -1));
    Door.throwing("isSet name", IllegalArgumentException.class, () -> Door.world(lost).isSet(0, 0, 40));
    Door.throwing("isSet name below", IllegalArgumentException.class, () -> Door.world(lost).isSet(0, 0, -1));
  }

  private static void raised() {
    String text = "package p ; class e extends Throw { } class d extends e { } class a { a ( ) throws d , Slip , e { } void f ( ) throws e { } "
        + "void g ( ) throws e , d { } void h ( ) { f ( ) ; g ( ) ; try { f ( ) ; throw new d ( ) ; } catch ( d x ) { } } void i ( ) { g ( ) ; } "
        + "void j ( ) { tell z ; f ( ) ; } int k = 1 ; } class b extends a { b ( ) { f ( ) ; } int l ( Throw x ) { "
            + "try { throw x ; } finally { return 1 ; } } "
        + "int m ( int x ) throws e { return 1 ; } void n ( ) throws d { m ( m ( 1 ) ) ; throw new d ( ) ; } }";
    Sourcedoor door = Door.world(text);
    Door.due("nothing", door.raised(0, Door.place(text, "f", 0)), "");
    Door.due("once each", door.raised(0, Door.place(text, "h", 0)), "p.e p.d");
    Door.due("as throws has them", door.raised(0, Door.place(text, "i", 0)), "p.e p.d");
    Door.due("of a constructor", door.raised(0, Door.place(text, "b", 1)), "p.d p.e");
    Door.due("of a constructor of Object's", door.raised(0, Door.place(text, "a", 1)), "");
    Door.due("not out of finally", door.raised(0, Door.place(text, "l", 0)), "");
    Door.due("by places", door.raised(0, Door.place(text, "n", 0)), "p.e p.d");
    Door.due("faulty body", door.raised(0, Door.place(text, "j", 0)), "-");
    Door.due("field", door.raised(0, Door.place(text, "k", 0)), "-");
    Door.due("class", door.raised(0, Door.place(text, "a", 0)), "-");
    Door.due("call", door.raised(0, Door.place(text, "f", 1)), "-");
    Door.due("abstract", Door.world("interface a { void f ( ) throws Throw ; }").raised(0, 4), "-");
    Door.throwing("raised place", IndexOutOfBoundsException.class, () -> new Sourcedoor().raised(0, 0));
    Door.throwing("raised unit", IndexOutOfBoundsException.class, () -> new Sourcedoor().raised(-1, 0));
  }
}
