/** The faults 1 to 10 and 16, and how they are told (promises 12 to 14). */
public final class FaultsTest {
  public static void main(String[] args) {
    told();
    syntax();
    limits();
    twice();
    unknown();
    cycles();
    forms();
    kinds();
    withoutType();
    abstracts();
    overrides();
    names();
    calls();
    statics();
    finals();
    stands();
    constructors();
    Door.end();
  }

  private static void told() {
    Sourcedoor door = Door.world("class a extends b { int k = z ; }");
    Door.due("faults", door.faults(0), "3@3 3@8");
    Door.due("fault 0 number", door.fault(0, 0, 0), 3);
    Door.due("fault 0 place", door.fault(0, 0, 1), 3);
    Door.due("fault 1 place", door.fault(0, 1, 1), 8);
    Door.due("fault 2", door.fault(0, 2, 0), -1);
    Door.due("fault far", door.fault(0, Integer.MAX_VALUE, 1), -1);
    Door.due("fault of none", door.fault(3, 0, 0), -1);
    Door.due("faultAt", door.faultAt(0, 3), 3);
    Door.due("faultAt without", door.faultAt(0, 4), 0);
    Door.due("faultAt the first place", Door.world(";").faultAt(0, 0), 1);
    Door.due("faultAt below", door.faultAt(0, -1), 0);
    Door.due("faultAt far", door.faultAt(0, Integer.MAX_VALUE), 0);
    Door.due("faultAt row", door.faultAt(0, 256), 0);
    Door.due("faultAt of the next one", door.faultAt(1, 3), 0);
    Door.throwing("fault(4)", IndexOutOfBoundsException.class, () -> door.fault(4, -1, 2));
    Door.throwing("fault(-1)", IndexOutOfBoundsException.class, () -> door.fault(-1, 0, 0));
    Door.throwing("fault k", IllegalArgumentException.class, () -> door.fault(0, -1, 0));
    Door.throwing("fault what", IllegalArgumentException.class, () -> door.fault(0, 0, 2));
    Door.throwing("fault what below", IllegalArgumentException.class, () -> door.fault(0, 0, -1));
    Door.throwing("faultAt unit", IndexOutOfBoundsException.class, () -> door.faultAt(4, 0));
    Door.throwing("faults unit", IndexOutOfBoundsException.class, () -> door.faults(-1));
    Sourcedoor two = Door.faults("class a { static final int k = 1 ; static void f ( ) { k @5,10 = null ; } }");
    Door.due("the smallest", two.faultAt(0, Door.place("class a { static final int k = 1 ; static void f ( ) { k = null", "=", 1)), 5);
  }

  private static void syntax() {
    Door.faults("");
    Door.faults("package p ; import q . @3 b ;");
    Door.faults("@1 ;");
    Door.faults("package @1 class");
    Door.faults("package p @1");
    Door.faults("import p . a ; @1 package p ;");
    Door.faults("abstract @1 interface a { }");
    Door.faults("class a extends b @1 , c { }");
    Door.faults("interface a extends b , c @1 implements d { }");
    Door.faults("class a { } @1 }");
    Door.faults("class a { static final int k @1 ( ) { } }");
    Door.faults("class a { final @1 static int k ; }");
    Door.faults("class a { abstract @1 static int f ( ) ; }");
    Door.faults("class a { abstract int f ( ) @1 { } }");
    Door.faults("class a { int f ( ) @1 ; }");
    Door.faults("class a { abstract int k @1 ; }");
    Door.faults("class a { void k @1 ; }");
    Door.faults("class a { static a @1 ( ) { } }");
    Door.faults("class a { Object @1 ( ) { } }");
    Door.faults("interface a { int k @1 ; }");
    Door.faults("interface a { @1 static int k = 1 ; }");
    Door.faults("interface a { int f ( ) @1 { } }");
    Door.faults("class a { int f ( int x , @1 ) { } }");
    Door.faults("class a { a ( ) { this ( ) @1 . f ( ) ; } }");
    Door.faults("class a { a ( ) { ; this @1 ( ) ; } }");
    Door.faults("class a { int f ( ) { this @1 ( ) ; } }");
    Door.faults("class a { int f ( ) { super @1 ( ) ; } }");
    Door.faults("class a { int f ( ) { Object @1 . f ( ) ; } }");
    Door.faults("class a { int f ( ) { if ( true ) @1 int x ; } }");
    Door.faults("class a { int f ( ) { if ( true ) a @1 x ; } }");
    Door.faults("class a { int f ( ) { if ( true ) @1 final } }");
    Door.faults("class a { int f ( ) { try { } @1 } }");
    Door.faults("class a { int f ( ) { try { } catch ( @1 int x ) { } } }");
    Door.faults("class a { int f ( ) throws @1 int { } }");
    Door.faults("class a { int f ( ) { try { } finally { } @1 catch ( Throw x ) { } } }");
    Door.faults("class a { int f ( ) { @1 else ; } }");
    Door.faults("class a { int f ( ) { do ; @1 tell 1 ; } }");
    Door.faults("class a { int k = 1 @1 : 2 ; }");
    Door.faults("class a { int k = 1 ? 2 @1 ; }");
    for (String each : new String[] {")", ",", ";", "}", "{"}) Door.faults("class a { int k = ( true ? 1 @1 " + each + " ; }");
    for (String each : new String[] {")", ",", ";", "}"}) Door.faults("class a { int k = f ( true ? 1 @1 " + each + " ; }");
    for (String each : new String[] {":", ";", "}"}) Door.faults("class a { int k = f ( 1 @1 " + each + " 2 ) ; }");
    Door.faults("class a { int k = f ( 1 , @1 ) ; }");
    Door.faults("class a { int k = ( @1 ) ; }");
    Door.faults("class a { int k = ( 1 @1 , 2 ) ; }");
    Door.faults("class a { int k = x instanceof @1 int ; }");
    Door.faults("class a { int k = x instanceof b @1 . c ; }");
    Door.faults("class a { int k = new @1 int ( ) ; }");
    Door.faults("class a { int k = new b @1 ; }");
    Door.faults("class a { int k = x . f ( ) @1 ( ) ; }");
    Door.faults("class a { int k = ( int ) @1 ; }");
    Door.faults("class a { int k = ( int @1 . ) 1 ; }");
    Door.faults("class a { int k = ( Object ) @1 - 1 ; }");
    Door.faults("class a { int k = ( Object @1 + 1 ) ; }");
    Door.faults("class a { int k = ( a ) @1 Object ; }");
    Door.faults("class a { int k = 1 @1 ! ; }");
    Door.faults("class a { int k = 1 @1");
    Door.faults("class a { @1 import");
    // No other fault is looked for, and its types are not there.
    Sourcedoor door = Door.faults("package p ; class a extends z { @1", "import p . @3 a ; class b extends @3 a { }");
    Door.due("types", door.types(0), "");
    Door.due("package", door.ofUnit(0, 4), -1);
    Door.due("tokens", door.ofUnit(0, 0), 8);
    Door.due("types counted", door.ofUnit(0, 1), 0);
    Door.due("imports counted", Door.world("import p . a ; @").ofUnit(0, 5) == 1, true);
    Door.due("imports", Door.world("import p . a ; import").imports(0), "");
  }

  private static void limits() {
    Door.faults("class a { void f ( ) { { { { { { { } } } } } } } }");
    Door.faults("class a { void f ( ) { { { { { { { @1 { } } } } } } } } }");
    Door.faults("class a { int k = ( ( ( ( ( ( ( 1 ) ) ) ) ) ) ) ; }");
    Door.faults("class a { int k = ( ( ( ( ( ( ( @1 ( 1 ) ) ) ) ) ) ) ) ; }");
    Door.faults("class a { int k = ( ( ( ( ( ( ( @1 ( int ) 1 ) ) ) ) ) ) ) ; }");
    Door.faults("class a { int k = - - - - - - - - 1 ; }");
    Door.faults("class a { int k = - - - - - - - - @1 - 1 ; }");
    Door.faults("class a { boolean k = ! ! ! ! ! ! ! ! @1 ! true ; }");
    Door.faults("class a { int k = - - - - - - - ( int ) 1 ; }");
    Door.faults("class a { int k = - - - - - - - - @1 ( int ) 1 ; }");
    Door.faults("class a { int k = - - - - - - - - ( - 1 ) ; }");
    Door.faults("class a { int k = - - - - - - - - ( k ) - 1 ; }");
    Door.faults("class a { int k = - - - - - - - - @1 ( a ) k ; }");
    Door.faults("class a { int k = 1 - - - - - - - - - 1 ; }");
    Door.faults("class a { int k = - - - - - - - - ( Object @1 ; ) ; }");
  }

  private static void twice() {
    Door.faults("import p . a ; import p . @2 a ;", "package p ; class a { }");
    Door.faults("import p . a ; import q . @2,3 a ;", "package p ; class a { }");
    Door.faults("import p . a ; import p . b ; import p . @2 a ;", "package p ; class a { } class b { }");
    Door.faults("import p . @2 a ; class a { }", "package p ; class a { }");
    Door.faults("package p ; import p . @2 a ; class a { }");
    Door.faults("class a { } class @2 a { }", "class @2 a { }", "package p ; class a { }");
    Door.faults("class a { int k ; long @2 k ; int k ( ) { return 1 ; } }");
    Door.faults("class a { void f ( int x ) { } int @2 f ( int y ) { return 1 ; } void f ( byte x ) { } void f ( ) { } }");
    Door.faults("class a { a ( int x ) { } @2 a ( int y ) { } }");
    Door.faults("class a { a ( ) { } @2,5 b ( ) { } }");
    Door.faults("class a { void f ( @3 b x ) { } void @2 f ( @3 c x ) { } a ( @3 b x ) { } @2 a ( @3 d x ) { } }");
    Door.faults("class a { void f ( int x , int @2 x ) { } }", "abstract class b { abstract void f ( int x , int @2 x ) ; }");
    Door.faults("interface a { void f ( int x , long @2 x ) ; }");
    Door.body("int @2 x ;");
    Door.body("int z ; { int @2 z ; } int @2 z ;");
    Door.body("{ int z ; } int z ; z = 1 ;");
    Door.body("int z = 1 ; try { int @2 z ; int w ; } catch ( Slip @2 z ) { int @2 z ; } catch ( Null w ) { } finally { int w ; }");
    Door.body("try { } catch ( Slip z ) { } int z ;");
    // What is twice in a method is known all the same, and the later one is meant.
    Sourcedoor door = Door.body("boolean @2 x ; x = true ; { int @2 x ; x = 1 ; } x = false ;");
    String text = door.text(0);
    Door.due("the later one", door.meant(0, Door.place(text, "x", 2)), "local " + Door.place(text, "x", 1));
    // A body is looked at though its member is twice.
    Door.faults("class a { int f ( ) { return 1 ; } int @2 f ( ) { return @3 z ; } int k ; int @2 k = @3 z ; }");
    // A REF that stands twice in one list.
    Door.faults("class a implements b , @2 b { }", "interface b { }");
    Door.faults("class a implements @3 b , @2,3 b { }");
    Door.faults("class a extends b implements @5 b { } class b { }");
    Door.faults("interface a extends b , c , @2 b { } interface b { } interface c { }");
    Door.faults("class a { void f ( ) throws Slip , Throw , @2 Slip { } a ( ) throws @5 a , @2,5 a { } }");
  }

  private static void unknown() {
    Door.faults("class a extends @3 b implements @3 c { @3 d k ; @3 e f ( @3 g x ) throws @3 h { @3 i z ; return null ; } }");
    Door.faults("interface a extends @3 b { }");
    Door.faults("import p . @3 a ; import q . @3 b ;", "package p ; class b { }", "class a { }");
    Door.body("try { } catch ( @3 z w ) { } y = ( @3 z ) y ; y = new @3 z ( ) ; tell y instanceof @3 z ;");
    Door.body("tell @3 z ; tell y . @3 k ; tell this . @3 z ; tell @3 z . k ; tell a . @3 z ; tell ( @3 a ) . n ; tell @3 a ;");
    Door.body("@3 g ( ) ; this . @3 g ( ) ; a . @3 g ( ) ; y . @3 g ( ) ;");
    Door.faults("class a { int f ( ) { return super . @3 k + super . @3 f ( ) ; } }");
    Door.faults("class a extends b { int f ( ) { return super . k . n + super . g ( ) . n + ( this ) . k . @3 m ; } } "
        + "class b { b k ; int n ; b g ( ) { return k ; } }");
    // The type of the unit comes first, then the import, then another unit of the package.
    Door.faults("package p ; class a { } class c extends a { int f ( ) { return this . @3 k ; } }", "package q ; class a { int k ; }");
    Door.faults("package p ; import q . a ; class c extends a { int f ( ) { return k ; } }", "package q ; class a { int k ; }",
        "package p ; class a { }");
    Door.faults("package p ; import r . @3 a ; class c extends a { int f ( ) { return k ; } }", "package q ; class a { int n ; }",
        "package p ; class a { int k ; }");
    Door.faults("class c extends a { int f ( ) { return k ; } }", "class a { int k ; }");
    Door.faults("import p . @2 d ; class d { int k ; } class b { int f ( d x ) { return x . k + x . @3 n ; } }", "package p ; class d { int n ; }");
    Door.faults("import p . d ; class b { int f ( d x ) { return x . @3 k + x . n ; } }", "package p ; class d { int n ; }", "class d { int k ; }");
    Door.faults("class c extends @3 a { }", "package p ; class a { int k ; }");
    // Of several types of one name always the first one, also in the unit of a later one.
    Door.faults("class a { int k ; }", "class @2 a { int n ; int f ( a x ) { return x . k + x . @3 n + n ; } }");
  }

  private static void cycles() {
    Door.faults("class @4 a extends b { } class @4 b extends a { } class c extends a { }");
    Door.faults("class @4 a extends a { }");
    Door.faults("interface @4 a extends b , c { } interface b { } interface @4 c extends a { } class d implements a { }");
    Sourcedoor door = Door.faults("class @4 a extends b implements i { } interface i { void f ( ) ; }", "class @4 b extends a { }");
    Door.due("above a", door.above(0, 0), "Object");
    Door.due("above b", door.above(1, 0), "Object");
    Door.due("subtype", door.isSubtype(0, 0, 0, 1), false);
    // What is not let does not count as told, so there is no cycle by it.
    Door.faults("class a extends @5 i { } interface i extends @5 a { }");
  }

  private static void forms() {
    Door.faults("class a extends @5 i { } class b extends @5 Integer { } class c implements @5 a { } interface i extends @5 c { }");
    Door.faults("class a implements @5 Object { } interface b extends @5 Throw { } class c extends Throw { } class d extends Cast { }");
    Door.faults("class a { void f ( ) throws @5 Object , @5 Integer , @5 a , Throw , Null { try { } catch ( @5 a x ) { } } }");
    Door.faults("class a { int @5 k = null ; }");
    Door.body("int @5 z = y ; boolean @5 w = 1 ; byte @5 v = 128 ; byte u = - 128 ; long t = 1 ; Integer s = 1 ; Object r = 1 ;");
    Door.body("byte z = 1 ; byte w = z ; byte @5 v = x ; Object @5 u = z ; Integer @5 t = z ; Object @5 s = true ; int r = s == null ? 1 : 2 ;");
    Door.body("Integer z = null ; int w = z ; long v = z ; byte @5 u = z ; z = x ; z @5 = v ; z @5 += 1 ; w += z ; w += v ; y @5 += 1 ;");
    Door.body("final int z = 5 ; byte w = z ; byte v = z + 1 ; byte @5 u = z * 100 ; byte @5 t = z < 3 ? 1 : 300 ;");
    Door.body("@5 if ( 1 ) ; @5 while ( y ) ; @5 do ; while ( null ) ; @5 throw y ; throw null ;");
    Door.body("@5 return 1 ;");
    Door.body("@5 return @3 z ;");
    Door.faults("class a { a ( ) { @5 return 1 ; } void g ( ) { return ; } int h ( ) { @5 return ; } @3 b i ( ) { @5 "
        + "return ; } @3 b j ( ) { return 1 ; } }");
    Door.faults("class a { byte f ( ) { return 5 ; } byte g ( int x ) { @5 return x ; } Integer h ( ) { return 1 ; } a i ( "
        + ") { return null ; } int j ( ) { return j ( ) ; } }");
    Door.body("@5 tell f ( 1 , null ) ; tell null ; tell this ; tell x @5 + f ( 1 , null ) ; int @5 z = f ( 1 , null ) ; "
        + "@5 f ( 1 , f ( 1 , null ) ) ;");
  }

  private static void kinds() {
    Door.body("tell @5 - true ; tell @5 ! 1 ; tell 1 @5 + true ; tell y @5 * 1 ; tell true @5 && 1 ; tell 1 @5 < true ; tell null @5 + 1 ;");
    Door.body("tell 1 == 2 ; tell true != false ; tell y == null ; tell y == this ; tell null @5 == null ; tell 1 @5 == "
        + "true ; tell y @5 == 1 ; tell null @5 == 1 ;");
    Door.faults("interface i { } class b { } class c extends b implements i { boolean f ( b x , i y , Integer z , Throw w ) { "
        + "return x == y && x @5 == w ; } boolean g ( b x , i y , Integer z , Object w ) { return z == 1 == ( z == z "
            + ") && w == z && y == w && z @5 == y ; } "
        + "boolean h ( Integer z , long u , boolean v ) { return z == u == v && z < u && z @5 == v ; } }");
    Door.body("Integer z = 1 ; tell x == z ; tell z != x ; tell x < z ; tell z + z ; tell ( byte ) 1 == z ; tell z @5 == true ; tell z == z ;");
    Door.body("tell y instanceof a ; tell null instanceof a ; tell x @5 instanceof a ; tell this @5 instanceof Throw ; "
        + "tell this instanceof Object ;");
    Door.body("tell ( long ) x ; tell ( byte ) 1 ; tell @5 ( boolean ) 1 ; tell ( boolean ) true ; tell @5 ( int ) true "
        + "; tell ( Object ) x ; tell ( Integer ) x ;");
    Door.body("tell @5 ( Integer ) ( long ) x ; tell @5 ( Object ) true ; tell @5 ( Object ) ( byte ) 1 ; tell ( Integer "
        + ") y ; tell ( a ) y ; tell ( a ) null ; tell @5 ( a ) ( Throw ) null ;");
    Door.body("Integer z = 1 ; tell ( long ) z ; tell ( int ) z ; tell @5 ( byte ) z ; tell ( Object ) z ; tell @5 ( a ) "
        + "z ; tell @5 ( int ) y ; tell @5 ( int ) null ;");
    Door.faults("interface i { } interface j { } class b { void f ( i x , b y , Integer z ) { tell ( j ) x ; tell ( b ) x "
        + "; tell ( j ) y ; tell @5 ( j ) z ; tell @5 ( Integer ) x ; } }");
    Door.body("Integer z = true ? 1 : 2 ; Integer w = true ? 1 : null ; int v = true ? z : 1 ; Object u = true ? z : y ; "
        + "a t = true ? null : this ; Object s = true ? 1 : y ;");
    Door.body("tell true @5 ? 1 : true ; tell 1 @5 ? 1 : 2 ; tell true @5 ? this : new Throw ( ) ; tell true ? null : "
        + "null ; tell true @5 ? ( byte ) 1 : null ; tell true @5 ? f ( 1 , y ) : 1 ;");
    Door.body("Object z = true ? y : 1 ; z = true ? y : this ; a w = true ? this : null ; tell true @5 ? y : ( long ) 1 ;");
    Door.body("byte z = 1 ; byte @5 w = x < 1 ? x : z ; int @5 v = x < 1 ? 1 : ( long ) x ; long u = x < 1 ? ( long ) x : 1 ;");
    Door.body("byte z = 1 ; byte w = x < 1 ? z : 1 ; byte @5 v = x < 1 ? z : x ; byte @5 u = x < 1 ? 1 : 2 ; byte @5 t = "
        + "x < 1 ? z : 128 ; byte s = x < 1 ? 127 : z ;");
  }

  private static void withoutType() {
    // What has a part without a type has no fault of its own, nor has what it stands in.
    Door.body("tell @3 z + true ; y = @3 z . f ( 1 ) ; x = g ( @3 z ) ; if ( @3 z ) ; int w = @3 z ; throw @3 z ;");
    Door.body("tell ! ( 1 @5 + true ) ; tell 1 + ( true ? @3 z : 1 ) ; y . @3 k = @3 z ; 5 = @3 z ; x . k ( @3 z ) ;");
    Door.body("@3,16 z ;");
    Door.faults("class a { @3 b k ; @3 b f ( @3 c x ) { k = 1 ; x = null ; tell k + 1 ; @5 f ( null ) ; f ( x ) ; return 1 "
        + "; } void g ( ) { int z = k ; @5 f ( 1 ) ; } }");
    Door.faults("class a { @3 b f ( ) { return f ( ) ; } void g ( ) { tell f ( ) + true ; int x = f ( ) ; f ( ) . k = 1 ; } }");
    Door.faults("class a { a ( int x ) { } a ( boolean x ) { this ( @3 z ) ; } a ( ) { @5 this ( null ) ; } }");
  }

  private static void abstracts() {
    Door.faults("class @6 a { abstract void f ( ) ; }", "abstract class b { abstract void f ( ) ; }", "class @6 c extends b { }");
    Door.faults("interface i { void f ( ) ; } class @6 a implements i { void f ( int x ) { } } class b implements i { void "
        + "f ( ) { } } abstract class c implements i { }");
    Door.faults("interface i { void f ( ) ; } class a { void f ( ) { } } class b extends a implements i { }");
    Door.faults("interface i { } abstract class a { a ( int x ) { } Object f ( ) { return true ? @6 new i ( ) : @6 new a ( "
        + "1 ) ; } Object g ( ) { return @6 new a ( @3 z ) ; } Object h ( ) { return @6 new a ( true ) ; } }");
    Sourcedoor door = Door.faults("abstract class a { abstract int f ( ) ; int g ( ) { return 1 ; } } class b extends a { int f ( ) { return "
        + "super . @6 f ( ) + super . g ( ) ; } }");
    Door.due("phase of an abstract one", door.phase(0, Door.place(door.text(0), "f", 2)), 1);
  }

  private static void overrides() {
    Door.faults("class a { int f ( ) { return 1 ; } static int g ( ) { return 1 ; } Object h ( ) { return null ; } } "
        + "class b extends a { long @7 f ( ) { return 1 ; } int @7 g ( ) { return 1 ; } a h ( ) { return null ; } }");
    Door.faults("class a { Integer f ( ) { return 1 ; } void g ( ) { } } class b extends a { int @7 f ( ) { return 1 ; } "
        + "Object @7 g ( ) { return null ; } }");
    Door.faults("class e extends Throw { } class d extends e { } class a { void f ( ) { } void g ( ) throws e { } void h ( ) throws d { } } "
        + "class b extends a { void @7 f ( ) throws e { } void g ( ) throws d , Slip , Null { } void @7 h ( ) throws e { } }");
    Door.faults("interface i { int f ( ) ; } class a { long f ( ) { return 1 ; } } class @7 b extends a implements i { } class c extends b { }");
    Door.faults("interface i { int f ( ) ; } interface j { long f ( ) ; } interface @7 k extends i , j { } interface l extends i { int f ( ) ; }");
    Door.faults("interface i { void f ( ) ; } interface j extends i { } interface k extends i { } abstract class c implements j , k { }");
    Door.faults("class a { a f ( ) { return null ; } int g ( ) { return 1 ; } Integer h ( ) { return 1 ; } } "
        + "class b extends a { Object @7 f ( ) { return null ; } Integer @7 g ( ) { return 1 ; } Throw @7 h ( ) { return null ; } } "
        + "class c extends a { c f ( ) { return this ; } }");
    // Any of those that it throws may be the reason.
    Door.faults("class e extends Throw { } class a { void f ( ) { } } class b extends a { void @7 f ( ) throws Slip , e { } }");
    Door.faults("class e extends Throw { } class a { void f ( ) throws Null { } } class b extends a { void @7 f ( ) throws e , Slip { } } class c extends a { void f ( ) throws "
        + "Slip , Cast { } }");
    // What is no CHECKED one is no reason, whatever is wrong with it.
    Door.faults("class a { void f ( ) { } } class b extends a { void f ( ) throws @3 z , @5 Object , @5 a { } }");
    // A kind that means nothing is no reason.
    Door.faults("class a { int f ( ) { return 1 ; } @3 z g ( ) { return 1 ; } void h ( @3 z x ) { } } class b extends a { "
        + "@3 z f ( ) { return 1 ; } int g ( ) { return 1 ; } static void @7 h ( @3 z x ) { } }");
  }

  private static void names() {
    Door.faults("interface i { int k = 1 ; } interface j { int k = 2 ; } class a implements i , j { int f ( ) { return @8 "
        + "k + i . k ; } int g ( a x ) { return x . @8 k ; } int h ( ) { return a . @8 k ; } }");
    Door.faults("interface i { int k = 1 ; } interface j extends i { } class a implements i , j { int f ( ) { return k ; } }");
    Door.faults("interface i { int k = 1 ; } class a { int k ; } class b extends a implements i { int f ( ) { return super "
        + ". k + @8 k ; } } class c extends b { long k ; long f ( boolean x ) { return k ; } int g ( ) { return "
        + "super . @8 k ; } }");
    // A variable stands ahead of a field, and both ahead of a type.
    Door.faults("class a { static int k ; int f ( Object a ) { return a . @3 k ; } }");
    Door.faults("class a { static int k ; Object a ; int f ( ) { return a . @3 k ; } } class b { static int n = a . k ; }");
    Door.faults("class a { static int k ; Object a ; static int f ( ) { return @9 a . k ; } }");
    // Known from behind its ; on, with an = from behind its NAME on, till the end of its BLOCK.
    Door.body("{ int z = ( z = 1 ) + z ; } tell @3 z ;");
    Door.body("int z ; { z = 1 ; } tell z ; try { } catch ( Slip w ) { tell w ; } finally { tell @3 w ; }");
    Door.body("tell null . @5 k ; " + "tell x . @5 k ; tell 5 . @5 k ; tell x . @5 f ( ) ; tell f ( 1 , y ) . @5 k ;");
  }

  private static void calls() {
    Door.faults("class a { void f ( int x ) { } void g ( ) { f ( 1 ) ; @5 f ( ) ; @5 f ( true ) ; @5 f ( 1 , 2 ) ; this . "
        + "@5 f ( null ) ; a . @5 f ( null ) ; } }");
    Door.faults("class a { void f ( byte x ) { } void g ( ) { @5 f ( 1 ) ; f ( ( byte ) 1 ) ; } }");
    Door.faults("class a { void f ( int x , long y ) { } void f ( long x , int y ) { } void g ( ) { @8 f ( 1 , 1 ) ; f ( 1 , ( long ) 1 ) ; } }");
    Door.faults("interface i { } interface j { } class a implements i , j { void f ( i x ) { } void f ( j x ) { } void g ( "
        + "i x ) { } void g ( a x ) { } void h ( ) { @8 f ( this ) ; @8 f ( null ) ; f ( ( j ) this ) ; g ( null ) ; "
        + "} }");
    Door.faults("class a { a ( int x ) { } a ( Object x ) { } a ( boolean x ) { @5 this ( ) ; } } class b extends a { b ( "
        + ") { super ( null ) ; } b ( int x ) { @5 super ( 1 , 2 ) ; } } class c { Object f ( ) { return @5 new a ( "
        + ") ; } Object g ( ) { return @5 new Integer ( ) ; } Object h ( ) { return @5 new Object ( 1 ) ; } Object i "
        + "( ) { return new Throw ( ) ; } }");
    Door.faults("class a { a ( int x , Integer y ) { } a ( Integer x , int y ) { } a ( ) { @8 this ( 1 , 1 ) ; } Object f "
        + "( ) { return @8 new a ( 1 , 1 ) ; } }");
    // What another call finds is none of those that this one may mean.
    Door.faults("class a { void f ( a x , Object y ) { } void f ( Object x , a y ) { } void f ( a x , a y ) { } void g ( a x , Object y ) { } "
        + "void g ( Object x , a y ) { } void h ( ) { f ( null , null ) ; @8 g ( null , null ) ; } }");
  }

  private static void statics() {
    Door.faults("class a { int k ; static int n = @9 k ; static int m = @9 f ( ) ; int f ( ) { return 1 ; } static int g ( "
        + ") { return @9 k + n ; } static int h ( ) { return @9 f ( ) + g ( ) ; } static a i ( ) { return @9 this ; "
        + "} }");
    Door.faults("class a { int k ; int f ( ) { return a . @9 k + a . @9 f ( ) + k ; } }");
    Door.faults("class b { int k ; int f ( int x ) { return 1 ; } } class a extends b { static int g ( ) { return @9 super "
        + ". k ; } static int h ( ) { return @9 super . f ( ) ; } static int i ( ) { return @9 super . z ( @3 w ) ; "
        + "} int j ( ) { return super . f ( 1 ) ; } }");
    Door.faults("class a { int k ; static int n ; int g ( ) { return 1 ; } a ( int x ) { } a ( ) { this ( @9 k ) ; } a ( "
        + "byte x ) { this ( n ) ; k = g ( ) ; } a ( long x ) { this ( @9 g ( ) ) ; } a ( Object x ) { this ( @9 "
        + "this . k ) ; } a ( boolean x , int y ) { this ( y ) ; } }");
    Door.faults("interface i { int k = @9 f ( ) ; int f ( ) ; Object n = @9 this ; }");
    // A static one by an EXPR is let.
    Door.faults("class a { static int k ; static int f ( ) { return 1 ; } int g ( a x ) { return x . k + x . f ( ) + this . k ; } }");
  }

  private static void finals() {
    Door.faults("interface i { int k = 1 ; } class a implements i { static final int n = 1 ; final int m = 2 ; a ( ) { m "
        + "@10 = 3 ; this . m @10 += 1 ; n @10 = 4 ; k @10 = 5 ; i . k @5,10 = true ; } void f ( int x ) { final int "
        + "z = 1 ; z @10 += x ; z @5,10 += true ; x = z ; z @10 = 2 ; m = @3 w ; } }");
  }

  private static void stands() {
    Door.body("@16 break ; @16 continue ; while ( x < 1 ) { break ; } while ( x < 1 ) if ( true ) { continue ; } do { break ; } while ( x < 1 ) ;");
    // Behind a loop in a loop one is in the outer loop still.
    Door.body("while ( x < 1 ) { do ; while ( x < 2 ) ; break ; } do { while ( x < 1 ) ; if ( x < 2 ) continue ; do ; while ( x < 3 ) ; break ; } while ( true ) ; @16 break ;");
    Door.body("@16 1 ; @16 x ; x @16 + 1 ; @16 - x ; @16 ( int ) x ; @16 this ; x @16 == 1 ; true @16 ? 1 : 2 ; this . "
        + "@16 k ; ( @16 x ) ; y @16 instanceof a ;");
    Door.body("x = 1 ; x += 1 ; f ( x , y ) ; ( f ( x , y ) ) ; new a ( ) ; this . f ( 1 , y ) ; new a ( ) . k = 3 ;");
    Door.body("5 @16 = x ; f ( 1 , y ) @16 = f ( 1 , y ) ; this @16 = y ; x + 1 @16 = true ; ( x ) = 1 ; x < 1 ? x : x @16 += 1 ; 5 @16 += true ;");
    Door.body("final int @16 z ; final int w = 1 ;");
    Door.faults("class a { final int @16 k ; static final Object @16 n ; final int @2,16 k ; }");
  }

  private static void constructors() {
    Door.faults("class a { @5 b ( ) { } }");
    Door.faults("class a { a ( int x ) { } } class @5 b extends a { } class c extends a { @5 c ( ) { } c ( int x ) { super "
        + "( x ) ; } c ( long x ) { this ( ) ; } }");
    Door.faults("class a { a ( int x ) { } } class b extends a { @5 c ( ) { } }");
    Door.faults("abstract class a { } class b extends a { } class c extends Throw { c ( ) { super ( ) ; } } class d "
        + "extends Throw { d ( ) { @5 super ( 1 ) ; } }");
    Door.faults("class a { a ( @3 z x ) { } } class @5 b extends a { }");
  }
}
