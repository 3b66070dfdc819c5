/** Types and their members (promises 15 to 26). */
public final class TypesTest {
  public static void main(String[] args) {
    imports();
    main();
    types();
    ofType();
    above();
    subtypes();
    methods();
    fields();
    constructors();
    overridden();
    anySequence();
    Door.end();
  }

  private static void imports() {
    Sourcedoor door = Door.world("package q ; import p . a ; import q . b ; import p . a ; class c { }", "package p ; class a { }");
    Door.due("imports", door.imports(0), "p.a q.b p.a");
    Door.due("imports without", door.imports(1), "");
    Door.due("imports at once", Door.world("import p . N ;").imports(0), "p.N");
    Door.throwing("imports unit", IndexOutOfBoundsException.class, () -> door.imports(4));
  }

  private static void main() {
    String text = "class a { int M ( int x , int y ) { return 1 ; } static int M ( int x ) { return 1 ; } static int M ( int "
        + "x , long y ) { return 1 ; } } "
        + "class b { static void M ( int y , int x ) { } static int M ( int x , int y ) { return z ; } } class c { "
            + "static int M ( int x , int y ) { return 1 ; } }";
    Sourcedoor door = Door.world(text);
    Door.due("main", door.main(0), Door.place(text, "M", 3));
    Door.due("main without", door.main(1), -1);
    Door.due("main of a broken one", Door.world("class a { static int M ( int x , int y ) { return 1 ; }").main(0), -1);
    Door.due("main of a broken one ahead of another unit", Door.world("class a { int k ; int n ; static int M ( int x , int y ) { return 1 ; } ;",
        "class b { void f ( int x , int y ) { } }").main(0), -1);
    Door.due("main in an interface", Door.world("interface a { int M ( int x , int y ) ; }").main(0), -1);
    Door.throwing("main unit", IndexOutOfBoundsException.class, () -> door.main(-1));
  }

  private static void types() {
    Sourcedoor door = Door.world("class a { } interface b { } class a { }", "package p ; abstract class N { }");
    Door.due("types", door.types(0), "a b a");
    Door.due("types of a package", door.types(1), "p.N");
    Door.due("types without", door.types(2), "");
    Door.throwing("types unit", IndexOutOfBoundsException.class, () -> door.types(4));
  }

  private static void ofType() {
    Sourcedoor door = Door.world("interface i { int k = 1 ; int f ( ) ; void g ( ) ; } abstract class a implements i { int n ; static int n "
        + "; a ( ) { } a ( int x ) { } a ( int y ) { } "
        + "int f ( ) { return 1 ; } int f ( ) { return 2 ; } abstract void h ( ) ; } class b { }");
    int[][] due = {{1, 1, 0, 2, 2, 0, 1, 2}, {21, 0, 1, 3, 2, 2, 1, 2}, {92, 0, 0, 0, 0, 0, 0, 0}};
    due[2][0] = Door.place(door.text(0), "b", 0);
    for (int k = 0; k < 3; k++) {
      for (int what = 0; what < 8; what++) Door.due("ofType " + k + " " + what, door.ofType(0, k, what), due[k][what]);
    }
    Door.throwing("ofType what", IllegalArgumentException.class, () -> door.ofType(0, 0, 8));
    Door.throwing("ofType what below", IllegalArgumentException.class, () -> door.ofType(0, 0, -1));
    Door.throwing("ofType type", IndexOutOfBoundsException.class, () -> door.ofType(0, 3, 9));
    Door.throwing("ofType type below", IndexOutOfBoundsException.class, () -> door.ofType(0, -1, 0));
    Door.throwing("ofType unit", IndexOutOfBoundsException.class, () -> door.ofType(4, 0, 0));
    Door.throwing("ofType of none", IndexOutOfBoundsException.class, () -> door.ofType(1, 0, 0));
  }

  private static void above() {
    Sourcedoor door = Door.world("package p ; class a extends b implements i , j , i { } class b extends z { } interface i extends j { } "
        + "interface j { } class c extends Slip { } class d implements i { } class e extends i implements b , Object "
        + "{ }");
    String[] due = {"p.b p.i p.j", "Object", "p.j", "", "Slip", "Object p.i", "Object"};
    for (int k = 0; k < due.length; k++) Door.due("above " + k, door.above(0, k), due[k]);
    Door.throwing("above type", IndexOutOfBoundsException.class, () -> door.above(0, 7));
    Door.throwing("above unit", IndexOutOfBoundsException.class, () -> door.above(-1, 0));
  }

  private static void subtypes() {
    Sourcedoor door = Door.world("class a { } class b extends a implements j { } class a extends a { }", "interface i { } interface j extends i { }", "class c extends b { }");
    Door.due("itself", door.isSubtype(0, 0, 0, 0), true);
    Door.due("above", door.isSubtype(0, 1, 0, 0), true);
    Door.due("below", door.isSubtype(0, 0, 0, 1), false);
    Door.due("over others", door.isSubtype(2, 0, 1, 0), true);
    Door.due("the second one of a name", door.isSubtype(0, 2, 0, 0), true);
    Door.due("not of the second one", door.isSubtype(0, 1, 0, 2), false);
    Door.due("subtypes", door.subtypes(0, 0), "b a c");
    Door.due("subtypes of an interface", door.subtypes(1, 0), "b j c");
    Door.due("subtypes without", door.subtypes(2, 0), "");
    // In whatever sequence they stand.
    Sourcedoor upwards = Door.world("class f extends e { } class e extends d { } class d extends c { } class c extends b { } class b extends a { } class a { } class z { }");
    for (int k = 0; k < 7; k++) {
      for (int m = 0; m < 7; m++) Door.due("upwards " + k + " " + m, upwards.isSubtype(0, k, 0, m), k == m || k < m && m < 6);
    }
    Door.due("the lowest one's names", upwards.subtypes(0, 5), "f e d c b");
    Door.throwing("isSubtype type", IndexOutOfBoundsException.class, () -> door.isSubtype(0, 3, 0, 0));
    Door.throwing("isSubtype other type", IndexOutOfBoundsException.class, () -> door.isSubtype(0, 0, 2, 1));
    Door.throwing("isSubtype unit", IndexOutOfBoundsException.class, () -> door.isSubtype(0, 0, 4, 0));
    Door.throwing("subtypes type", IndexOutOfBoundsException.class, () -> door.subtypes(3, 0));
  }

  private static void methods() {
    Sourcedoor door = Door.world("package p ; interface i { void f ( ) ; int g ( a x , Object y ) ; } class a implements i { static long h "
        + "( byte x , boolean y , z w ) { return 1 ; } void f ( ) { } void f ( long x ) { } void f ( long y ) { } } "
        + "class b extends a { int g ( a x , Object y ) { return 1 ; } }");
    Door.due("methods of an interface", door.methods(0, 0), "abstract f() abstract g(p.a,Object)");
    Door.due("methods of a class", door.methods(0, 1), "static h(byte,boolean,?) f() f(long) abstract g(p.a,Object)");
    Door.due("methods below", door.methods(0, 2), "g(p.a,Object) static h(byte,boolean,?) f() f(long)");
    Door.throwing("methods type", IndexOutOfBoundsException.class, () -> door.methods(0, 3));
    Door.throwing("methods unit", IndexOutOfBoundsException.class, () -> door.methods(4, 0));
  }

  private static void fields() {
    Sourcedoor door = Door.world("package p ; interface i { Integer k = 1 ; } interface j { int k = 1 ; long n = 1 ; } class a implements i "
        + "{ z m ; static byte n ; } class b extends a implements j { } class c extends b implements i { c m ; long "
        + "m ; boolean k ; }");
    int k = 10;
    int n = 13;
    int m = 12;
    Door.due("own one", door.field(0, 2, n), "p.a.n:byte");
    Door.due("one above", door.field(0, 2, k), "p.i.k:Integer");
    Door.due("a kind that means nothing", door.field(0, 3, m), "p.a.m:?");
    Door.due("several", door.field(0, 3, n), "!");
    Door.due("several interfaces", door.field(0, 3, k), "!");
    Door.due("own one ahead", door.field(0, 4, k), "p.c.k:boolean");
    Door.due("own one of a type", door.field(0, 4, m), "p.c.m:p.c");
    Door.due("without", door.field(0, 4, 0), "-");
    Door.due("own", door.own(0, 4), "m:p.c k:boolean");
    Door.due("own", door.own(0, 2), "m:? n:byte");
    Door.due("own without", door.own(0, 3), "");
    Door.throwing("field name", IllegalArgumentException.class, () -> door.field(0, 0, 40));
    Door.throwing("field name below", IllegalArgumentException.class, () -> door.field(0, 0, -1));
    Door.throwing("field type", IndexOutOfBoundsException.class, () -> door.field(0, 5, 40));
    Door.throwing("own type", IndexOutOfBoundsException.class, () -> door.own(0, -1));
    Door.throwing("own unit", IndexOutOfBoundsException.class, () -> door.own(4, 0));
    // By two ways, but once.
    Door.due("one by two ways", Door.world("interface i { int k = 1 ; } interface j extends i { } class a implements i , j { }").field(0, 2, k), "i.k:int");
  }

  private static void constructors() {
    Sourcedoor door = Door.world("package p ; class a { a ( ) { } a ( a x , Throw y ) { } a ( z x ) { } a ( w x ) { } b ( long x ) { } } "
        + "class b { } interface c { }");
    Door.due("constructors", door.constructors(0, 0), "() (p.a,Throw) (?) (long)");
    Door.due("constructors without", door.constructors(0, 1), "");
    Door.due("constructors of an interface", door.constructors(0, 2), "");
    Door.throwing("constructors type", IndexOutOfBoundsException.class, () -> door.constructors(0, 3));
    Door.throwing("constructors unit", IndexOutOfBoundsException.class, () -> door.constructors(4, 0));
  }

  private static void overridden() {
    String text = "interface i { void f ( ) ; void g ( ) ; } interface j extends i { void f ( ) ; } class a implements i { "
        + "void f ( ) { } void g ( ) { } } class b extends a implements i , j { void f ( ) { } void f ( ) { } void h "
        + "( ) { f ( ) ; } int k ; }";
    Sourcedoor door = Door.world(text);
    Door.due("none above", door.overridden(0, Door.place(text, "f", 0)), 0);
    Door.due("one", door.overridden(0, Door.place(text, "f", 1)), 1);
    Door.due("one of a class", door.overridden(0, Door.place(text, "g", 1)), 1);
    Door.due("three", door.overridden(0, Door.place(text, "f", 3)), 3);
    Door.due("twice", door.overridden(0, Door.place(text, "f", 4)), -1);
    Door.due("none", door.overridden(0, Door.place(text, "h", 0)), 0);
    Door.due("a call", door.overridden(0, Door.place(text, "f", 5)), -1);
    Door.due("a field", door.overridden(0, Door.place(text, "k", 0)), -1);
    Door.throwing("overridden place", IndexOutOfBoundsException.class, () -> door.overridden(0, 240));
    Door.throwing("overridden unit", IndexOutOfBoundsException.class, () -> door.overridden(4, 0));
  }

  /** In which sequence TYPES stand, and in which UNITS, tells nothing but how they are told. */
  private static void anySequence() {
    String[] types = {
      "interface i { int k = 1 ; void f ( ) throws d , e ; int g ( ) ; }", "interface j extends i { Object h ( c x ) ; }",
      "abstract class b implements j { int g ( ) { return k ; } }", "class c extends b implements i { void f ( ) throws e { } c h ( c x ) { return x ; } }",
      "class e extends Throw { }", "class d extends Throw { }",
    };
    String[] due = {
      "i//abstract f() abstract g()", "j/i/abstract h(c) abstract f() abstract g()", "b/Object j/g() abstract h(c) abstract f()",
      "c/b i/f() h(c) g()", "e/Throw/", "d/Throw/",
    };
    for (int way = 0; way < 720; way += 7) {
      int[] places = new int[6];
      boolean[] taken = new boolean[6];
      int left = way;
      for (int k = 0; k < 6; k++) {
        int place = left % (6 - k);
        left /= 6 - k;
        int at = 0;
        while (taken[at] || place-- > 0) at++;
        taken[at] = true;
        places[k] = at;
      }
      String[] units = {"", "", "", ""};
      String[] found = new String[6];
      for (int k = 0; k < 6; k++) units[k * (way % 4 + 1) / 6] += types[places[k]] + " ";
      Sourcedoor door = Door.world(units);
      int next = 0;
      for (int unit = 0; unit < 4; unit++) {
        Door.due("faults of way " + way, door.faults(unit), "");
        for (int k = 0; k < door.ofUnit(unit, 1); k++) {
          found[places[next++]] = door.types(unit).split(" ")[k] + "/" + door.above(unit, k) + "/" + door.methods(unit, k);
        }
      }
      for (int k = 0; k < 6; k++) Door.due("way " + way, found[k], due[k]);
    }
    // One that a METHOD throws may be covered by any of those that the other one throws.
    String thrown = "class e extends Throw { } class d extends e { } class n extends Throw { } ";
    Door.faults(thrown + "class a { void f ( ) throws n , e { } void g ( ) throws Slip , n { } } class b extends a { void f ( ) throws d , n { } void @7 g ( ) "
        + "throws Null , n , d { } }");
    Door.faults(thrown + "class a { void f ( ) throws e { } void g ( ) throws n , e { f ( ) ; } void h ( ) throws Slip , n { @14 f ( ) ; } void i ( ) throws n , Slip , "
        + "Throw { f ( ) ; } }");
  }
}
